/-! ===== the law: its cases ===== -/
set_option maxHeartbeats 4000000 in
set_option maxRecDepth 100000 in
theorem lc_0 {X : ZX} (hX : ZOK X 9 cL_law 6) {L : Nat} {xs : Nat → Int32} (hS : ZSc X L xs) (hL : L ≤ 2560) {k N : Nat} (hk : k + 5 ≤ L) (hN : 5 * N = k) (a : Nat → Nat → Int32) (b : Nat → Nat → Int64) (f : Nat → Nat → Int32) (g : Nat → Nat → Int64) (a' : Nat → Nat → Int32) (b' : Nat → Nat → Int64) (c' : Nat → Int32) (hR : Rel N a b f g a' b' c') (next : ∀ (a1 : Nat → Nat → Int32) (b1 : Nat → Nat → Int64) (f1 : Nat → Nat → Int32) (g1 : Nat → Nat → Int64) (a2 : Nat → Nat → Int32) (b2 : Nat → Nat → Int64) (c2 : Nat → Int32), Rel (N + 1) a1 b1 f1 g1 a2 b2 c2 → ZG X 892 [some (.ref 1003), some (.ref 0), some (.ref 59), some (.int (nI k))] [] (LW a1 b1 f1 g1 a2 b2 c2)) : ZG X 136 [some (.ref 1003), some (.ref 0), some (.ref 59), some (.int (nI k))] [] (LW a b f g a' b' c') := by
  obtain ⟨P5, P6, hM5, hM6, hst⟩ := k_wind hR (xs (k + 1)) (xs (k + 2))
  refine z_aload_n hX dL_law_136 rfl ?_
  refine z_aload_n hX dL_law_137 rfl ?_
  refine z_iload_n hX dL_law_138 rfl ?_
  refine z_iconst (v := nI 1) hX dL_law_139 rfl ?_
  refine z_iaddN hX dL_law_140 ?_
  refine z_sld hX hS dL_law_141 (by omega) (by omega) ?_
  refine z_aload_n hX dL_law_142 rfl ?_
  refine z_iload_n hX dL_law_143 rfl ?_
  refine z_iconst (v := nI 2) hX dL_law_144 rfl ?_
  refine z_iaddN hX dL_law_145 ?_
  refine z_sld hX hS dL_law_146 (by omega) (by omega) ?_
  refine z_callV hX dL_law_147 mv_9_13 is5 hM5 (by decide) rfl rfl (lw_sub5 a b f g a' b' c') (by decide +kernel) (Nat.le_of_ble_eq_true rfl) rfl rfl (Nat.le_of_ble_eq_true rfl) (fun r w1 hp5 _ => ?_)
  refine z_aload_n hX dL_law_150 rfl ?_
  refine z_aload_n hX dL_law_151 rfl ?_
  refine z_iload_n hX dL_law_152 rfl ?_
  refine z_iconst (v := nI 1) hX dL_law_153 rfl ?_
  refine z_iaddN hX dL_law_154 ?_
  refine z_sld hX hS dL_law_155 (by omega) (by omega) ?_
  refine z_aload_n hX dL_law_156 rfl ?_
  refine z_iload_n hX dL_law_157 rfl ?_
  refine z_iconst (v := nI 2) hX dL_law_158 rfl ?_
  refine z_iaddN hX dL_law_159 ?_
  refine z_sld hX hS dL_law_160 (by omega) (by omega) ?_
  refine z_callV hX dL_law_161 mv_9_17 is6 hM6 (by decide) rfl rfl (lw_sub6 a b f g a' b' c' w1) (by decide +kernel) (Nat.le_of_ble_eq_true rfl) rfl rfl (zpg_room _ r) (fun r2 w2 hp6 _ => ?_)
  obtain ⟨a1, b1, f1, g1, a2, b2, c2, v, rfl, rfl, hR1, rfl, rfl⟩ := hst r r2 w1 w2 hp5 hp6
  refine z_norm (ls' := [some (.ref 1003), some (.ref 0), some (.ref 59), some (.int (nI k))]) rfl rfl (lw_put a b f g a' b' c' a1 b1 f1 g1 a2 b2 c2) ?_
  exact z_icmp_eq (tgt := 892) hX dL_law_164 (by decide) (fun _ => next a1 b1 f1 g1 a2 b2 c2 hR1) (fun c => absurd rfl c)
set_option maxHeartbeats 4000000 in
set_option maxRecDepth 100000 in
theorem lc_1 {X : ZX} (hX : ZOK X 9 cL_law 6) {L : Nat} {xs : Nat → Int32} (hS : ZSc X L xs) (hL : L ≤ 2560) {k N : Nat} (hk : k + 5 ≤ L) (hN : 5 * N = k) (a : Nat → Nat → Int32) (b : Nat → Nat → Int64) (f : Nat → Nat → Int32) (g : Nat → Nat → Int64) (a' : Nat → Nat → Int32) (b' : Nat → Nat → Int64) (c' : Nat → Int32) (hR : Rel N a b f g a' b' c') (next : ∀ (a1 : Nat → Nat → Int32) (b1 : Nat → Nat → Int64) (f1 : Nat → Nat → Int32) (g1 : Nat → Nat → Int64) (a2 : Nat → Nat → Int32) (b2 : Nat → Nat → Int64) (c2 : Nat → Int32), Rel (N + 1) a1 b1 f1 g1 a2 b2 c2 → ZG X 892 [some (.ref 1003), some (.ref 0), some (.ref 59), some (.int (nI k))] [] (LW a1 b1 f1 g1 a2 b2 c2)) : ZG X 169 [some (.ref 1003), some (.ref 0), some (.ref 59), some (.int (nI k))] [] (LW a b f g a' b' c') := by
  obtain ⟨P5, P6, hM5, hM6, hst⟩ := k_gives hR (xs (k + 1))
  refine z_aload_n hX dL_law_169 rfl ?_
  refine z_aload_n hX dL_law_170 rfl ?_
  refine z_iload_n hX dL_law_171 rfl ?_
  refine z_iconst (v := nI 1) hX dL_law_172 rfl ?_
  refine z_iaddN hX dL_law_173 ?_
  refine z_sld hX hS dL_law_174 (by omega) (by omega) ?_
  refine z_callV hX dL_law_175 mv_9_18 is5 hM5 (by decide) rfl rfl (lw_sub5 a b f g a' b' c') (by decide +kernel) (Nat.le_of_ble_eq_true rfl) rfl rfl (Nat.le_of_ble_eq_true rfl) (fun r w1 hp5 _ => ?_)
  refine z_aload_n hX dL_law_178 rfl ?_
  refine z_aload_n hX dL_law_179 rfl ?_
  refine z_iload_n hX dL_law_180 rfl ?_
  refine z_iconst (v := nI 1) hX dL_law_181 rfl ?_
  refine z_iaddN hX dL_law_182 ?_
  refine z_sld hX hS dL_law_183 (by omega) (by omega) ?_
  refine z_callV hX dL_law_184 mv_9_22 is6 hM6 (by decide) rfl rfl (lw_sub6 a b f g a' b' c' w1) (by decide +kernel) (Nat.le_of_ble_eq_true rfl) rfl rfl (zpg_room _ r) (fun r2 w2 hp6 _ => ?_)
  obtain ⟨a1, b1, f1, g1, a2, b2, c2, v, rfl, rfl, hR1, rfl, rfl⟩ := hst r r2 w1 w2 hp5 hp6
  refine z_norm (ls' := [some (.ref 1003), some (.ref 0), some (.ref 59), some (.int (nI k))]) rfl rfl (lw_put a b f g a' b' c' a1 b1 f1 g1 a2 b2 c2) ?_
  exact z_icmp_eq (tgt := 892) hX dL_law_187 (by decide) (fun _ => next a1 b1 f1 g1 a2 b2 c2 hR1) (fun c => absurd rfl c)
set_option maxHeartbeats 4000000 in
set_option maxRecDepth 100000 in
theorem lc_2 {X : ZX} (hX : ZOK X 9 cL_law 6) {L : Nat} {xs : Nat → Int32} (hS : ZSc X L xs) (hL : L ≤ 2560) {k N : Nat} (hk : k + 5 ≤ L) (hN : 5 * N = k) (a : Nat → Nat → Int32) (b : Nat → Nat → Int64) (f : Nat → Nat → Int32) (g : Nat → Nat → Int64) (a' : Nat → Nat → Int32) (b' : Nat → Nat → Int64) (c' : Nat → Int32) (hR : Rel N a b f g a' b' c') (next : ∀ (a1 : Nat → Nat → Int32) (b1 : Nat → Nat → Int64) (f1 : Nat → Nat → Int32) (g1 : Nat → Nat → Int64) (a2 : Nat → Nat → Int32) (b2 : Nat → Nat → Int64) (c2 : Nat → Int32), Rel (N + 1) a1 b1 f1 g1 a2 b2 c2 → ZG X 892 [some (.ref 1003), some (.ref 0), some (.ref 59), some (.int (nI k))] [] (LW a1 b1 f1 g1 a2 b2 c2)) : ZG X 192 [some (.ref 1003), some (.ref 0), some (.ref 59), some (.int (nI k))] [] (LW a b f g a' b' c') := by
  obtain ⟨P5, P6, hM5, hM6, hst⟩ := k_still hR (xs (k + 1))
  refine z_aload_n hX dL_law_192 rfl ?_
  refine z_aload_n hX dL_law_193 rfl ?_
  refine z_iload_n hX dL_law_194 rfl ?_
  refine z_iconst (v := nI 1) hX dL_law_195 rfl ?_
  refine z_iaddN hX dL_law_196 ?_
  refine z_sld hX hS dL_law_197 (by omega) (by omega) ?_
  refine z_callV hX dL_law_198 mv_9_23 is5 hM5 (by decide) rfl rfl (lw_sub5 a b f g a' b' c') (by decide +kernel) (Nat.le_of_ble_eq_true rfl) rfl rfl (Nat.le_of_ble_eq_true rfl) (fun r w1 hp5 _ => ?_)
  refine z_aload_n hX dL_law_201 rfl ?_
  refine z_aload_n hX dL_law_202 rfl ?_
  refine z_iload_n hX dL_law_203 rfl ?_
  refine z_iconst (v := nI 1) hX dL_law_204 rfl ?_
  refine z_iaddN hX dL_law_205 ?_
  refine z_sld hX hS dL_law_206 (by omega) (by omega) ?_
  refine z_callV hX dL_law_207 mv_9_27 is6 hM6 (by decide) rfl rfl (lw_sub6 a b f g a' b' c' w1) (by decide +kernel) (Nat.le_of_ble_eq_true rfl) rfl rfl (zpg_room _ r) (fun r2 w2 hp6 _ => ?_)
  obtain ⟨a1, b1, f1, g1, a2, b2, c2, v, rfl, rfl, hR1, rfl, rfl⟩ := hst r r2 w1 w2 hp5 hp6
  refine z_norm (ls' := [some (.ref 1003), some (.ref 0), some (.ref 59), some (.int (nI k))]) rfl rfl (lw_put a b f g a' b' c' a1 b1 f1 g1 a2 b2 c2) ?_
  refine z_lcmp hX dL_law_210 ?_
  exact z_lif_eq (tgt := 892) hX dL_law_211 (by decide) (fun _ => next a1 b1 f1 g1 a2 b2 c2 hR1) (fun c => absurd rfl c)
set_option maxHeartbeats 4000000 in
set_option maxRecDepth 100000 in
theorem lc_3 {X : ZX} (hX : ZOK X 9 cL_law 6) {L : Nat} {xs : Nat → Int32} (hS : ZSc X L xs) (hL : L ≤ 2560) {k N : Nat} (hk : k + 5 ≤ L) (hN : 5 * N = k) (a : Nat → Nat → Int32) (b : Nat → Nat → Int64) (f : Nat → Nat → Int32) (g : Nat → Nat → Int64) (a' : Nat → Nat → Int32) (b' : Nat → Nat → Int64) (c' : Nat → Int32) (hR : Rel N a b f g a' b' c') (next : ∀ (a1 : Nat → Nat → Int32) (b1 : Nat → Nat → Int64) (f1 : Nat → Nat → Int32) (g1 : Nat → Nat → Int64) (a2 : Nat → Nat → Int32) (b2 : Nat → Nat → Int64) (c2 : Nat → Int32), Rel (N + 1) a1 b1 f1 g1 a2 b2 c2 → ZG X 892 [some (.ref 1003), some (.ref 0), some (.ref 59), some (.int (nI k))] [] (LW a1 b1 f1 g1 a2 b2 c2)) : ZG X 216 [some (.ref 1003), some (.ref 0), some (.ref 59), some (.int (nI k))] [] (LW a b f g a' b' c') := by
  obtain ⟨P5, P6, hM5, hM6, hst⟩ := k_change hR 
  refine z_aload_n hX dL_law_216 rfl ?_
  refine z_callV hX dL_law_217 mv_9_28 is5 hM5 (by decide) rfl rfl (lw_sub5 a b f g a' b' c') (by decide +kernel) (Nat.le_of_ble_eq_true rfl) rfl rfl (Nat.le_of_ble_eq_true rfl) (fun r w1 hp5 _ => ?_)
  refine z_aload_n hX dL_law_220 rfl ?_
  refine z_callV hX dL_law_221 mv_9_32 is6 hM6 (by decide) rfl rfl (lw_sub6 a b f g a' b' c' w1) (by decide +kernel) (Nat.le_of_ble_eq_true rfl) rfl rfl (zpg_room _ r) (fun r2 w2 hp6 _ => ?_)
  obtain ⟨a1, b1, f1, g1, a2, b2, c2, v, rfl, rfl, hR1, rfl, rfl⟩ := hst r r2 w1 w2 hp5 hp6
  refine z_norm (ls' := [some (.ref 1003), some (.ref 0), some (.ref 59), some (.int (nI k))]) rfl rfl (lw_put a b f g a' b' c' a1 b1 f1 g1 a2 b2 c2) ?_
  refine z_lcmp hX dL_law_224 ?_
  exact z_lif_eq (tgt := 892) hX dL_law_225 (by decide) (fun _ => next a1 b1 f1 g1 a2 b2 c2 hR1) (fun c => absurd rfl c)
set_option maxHeartbeats 4000000 in
set_option maxRecDepth 100000 in
theorem lc_4 {X : ZX} (hX : ZOK X 9 cL_law 6) {L : Nat} {xs : Nat → Int32} (hS : ZSc X L xs) (hL : L ≤ 2560) {k N : Nat} (hk : k + 5 ≤ L) (hN : 5 * N = k) (a : Nat → Nat → Int32) (b : Nat → Nat → Int64) (f : Nat → Nat → Int32) (g : Nat → Nat → Int64) (a' : Nat → Nat → Int32) (b' : Nat → Nat → Int64) (c' : Nat → Int32) (hR : Rel N a b f g a' b' c') (next : ∀ (a1 : Nat → Nat → Int32) (b1 : Nat → Nat → Int64) (f1 : Nat → Nat → Int32) (g1 : Nat → Nat → Int64) (a2 : Nat → Nat → Int32) (b2 : Nat → Nat → Int64) (c2 : Nat → Int32), Rel (N + 1) a1 b1 f1 g1 a2 b2 c2 → ZG X 892 [some (.ref 1003), some (.ref 0), some (.ref 59), some (.int (nI k))] [] (LW a1 b1 f1 g1 a2 b2 c2)) : ZG X 230 [some (.ref 1003), some (.ref 0), some (.ref 59), some (.int (nI k))] [] (LW a b f g a' b' c') := by
  obtain ⟨P5, P6, hM5, hM6, hst⟩ := k_sheet hR (xs (k + 1)) (xs (k + 2)) (xs (k + 3))
  refine z_aload_n hX dL_law_230 rfl ?_
  refine z_aload_n hX dL_law_231 rfl ?_
  refine z_iload_n hX dL_law_232 rfl ?_
  refine z_iconst (v := nI 1) hX dL_law_233 rfl ?_
  refine z_iaddN hX dL_law_234 ?_
  refine z_sld hX hS dL_law_235 (by omega) (by omega) ?_
  refine z_aload_n hX dL_law_236 rfl ?_
  refine z_iload_n hX dL_law_237 rfl ?_
  refine z_iconst (v := nI 2) hX dL_law_238 rfl ?_
  refine z_iaddN hX dL_law_239 ?_
  refine z_sld hX hS dL_law_240 (by omega) (by omega) ?_
  refine z_aload_n hX dL_law_241 rfl ?_
  refine z_iload_n hX dL_law_242 rfl ?_
  refine z_iconst (v := nI 3) hX dL_law_243 rfl ?_
  refine z_iaddN hX dL_law_244 ?_
  refine z_sld hX hS dL_law_245 (by omega) (by omega) ?_
  refine z_callV hX dL_law_246 mv_9_33 is5 hM5 (by decide) rfl rfl (lw_sub5 a b f g a' b' c') (by decide +kernel) (Nat.le_of_ble_eq_true rfl) rfl rfl (Nat.le_of_ble_eq_true rfl) (fun r w1 hp5 _ => ?_)
  refine z_aload_n hX dL_law_249 rfl ?_
  refine z_aload_n hX dL_law_250 rfl ?_
  refine z_iload_n hX dL_law_251 rfl ?_
  refine z_iconst (v := nI 1) hX dL_law_252 rfl ?_
  refine z_iaddN hX dL_law_253 ?_
  refine z_sld hX hS dL_law_254 (by omega) (by omega) ?_
  refine z_aload_n hX dL_law_255 rfl ?_
  refine z_iload_n hX dL_law_256 rfl ?_
  refine z_iconst (v := nI 2) hX dL_law_257 rfl ?_
  refine z_iaddN hX dL_law_258 ?_
  refine z_sld hX hS dL_law_259 (by omega) (by omega) ?_
  refine z_aload_n hX dL_law_260 rfl ?_
  refine z_iload_n hX dL_law_261 rfl ?_
  refine z_iconst (v := nI 3) hX dL_law_262 rfl ?_
  refine z_iaddN hX dL_law_263 ?_
  refine z_sld hX hS dL_law_264 (by omega) (by omega) ?_
  refine z_callV hX dL_law_265 mv_9_37 is6 hM6 (by decide) rfl rfl (lw_sub6 a b f g a' b' c' w1) (by decide +kernel) (Nat.le_of_ble_eq_true rfl) rfl rfl (zpg_room _ r) (fun r2 w2 hp6 _ => ?_)
  obtain ⟨a1, b1, f1, g1, a2, b2, c2, v, rfl, rfl, hR1, rfl, rfl⟩ := hst r r2 w1 w2 hp5 hp6
  refine z_norm (ls' := [some (.ref 1003), some (.ref 0), some (.ref 59), some (.int (nI k))]) rfl rfl (lw_put a b f g a' b' c' a1 b1 f1 g1 a2 b2 c2) ?_
  exact z_icmp_eq (tgt := 892) hX dL_law_268 (by decide) (fun _ => next a1 b1 f1 g1 a2 b2 c2 hR1) (fun c => absurd rfl c)
set_option maxHeartbeats 4000000 in
set_option maxRecDepth 100000 in
theorem lc_5 {X : ZX} (hX : ZOK X 9 cL_law 6) {L : Nat} {xs : Nat → Int32} (hS : ZSc X L xs) (hL : L ≤ 2560) {k N : Nat} (hk : k + 5 ≤ L) (hN : 5 * N = k) (a : Nat → Nat → Int32) (b : Nat → Nat → Int64) (f : Nat → Nat → Int32) (g : Nat → Nat → Int64) (a' : Nat → Nat → Int32) (b' : Nat → Nat → Int64) (c' : Nat → Int32) (hR : Rel N a b f g a' b' c') (next : ∀ (a1 : Nat → Nat → Int32) (b1 : Nat → Nat → Int64) (f1 : Nat → Nat → Int32) (g1 : Nat → Nat → Int64) (a2 : Nat → Nat → Int32) (b2 : Nat → Nat → Int64) (c2 : Nat → Int32), Rel (N + 1) a1 b1 f1 g1 a2 b2 c2 → ZG X 892 [some (.ref 1003), some (.ref 0), some (.ref 59), some (.int (nI k))] [] (LW a1 b1 f1 g1 a2 b2 c2)) : ZG X 273 [some (.ref 1003), some (.ref 0), some (.ref 59), some (.int (nI k))] [] (LW a b f g a' b' c') := by
  obtain ⟨P5, P6, hM5, hM6, hst⟩ := k_drop hR (xs (k + 1))
  refine z_aload_n hX dL_law_273 rfl ?_
  refine z_aload_n hX dL_law_274 rfl ?_
  refine z_iload_n hX dL_law_275 rfl ?_
  refine z_iconst (v := nI 1) hX dL_law_276 rfl ?_
  refine z_iaddN hX dL_law_277 ?_
  refine z_sld hX hS dL_law_278 (by omega) (by omega) ?_
  refine z_callV hX dL_law_279 mv_9_38 is5 hM5 (by decide) rfl rfl (lw_sub5 a b f g a' b' c') (by decide +kernel) (Nat.le_of_ble_eq_true rfl) rfl rfl (Nat.le_of_ble_eq_true rfl) (fun r w1 hp5 _ => ?_)
  refine z_aload_n hX dL_law_282 rfl ?_
  refine z_aload_n hX dL_law_283 rfl ?_
  refine z_iload_n hX dL_law_284 rfl ?_
  refine z_iconst (v := nI 1) hX dL_law_285 rfl ?_
  refine z_iaddN hX dL_law_286 ?_
  refine z_sld hX hS dL_law_287 (by omega) (by omega) ?_
  refine z_callV hX dL_law_288 mv_9_41 is6 hM6 (by decide) rfl rfl (lw_sub6 a b f g a' b' c' w1) (by decide +kernel) (Nat.le_of_ble_eq_true rfl) rfl rfl (zpg_room _ r) (fun r2 w2 hp6 _ => ?_)
  obtain ⟨a1, b1, f1, g1, a2, b2, c2, v, rfl, rfl, hR1, rfl, rfl⟩ := hst r r2 w1 w2 hp5 hp6
  refine z_norm (ls' := [some (.ref 1003), some (.ref 0), some (.ref 59), some (.int (nI k))]) rfl rfl (lw_put a b f g a' b' c' a1 b1 f1 g1 a2 b2 c2) ?_
  exact z_icmp_eq (tgt := 892) hX dL_law_291 (by decide) (fun _ => next a1 b1 f1 g1 a2 b2 c2 hR1) (fun c => absurd rfl c)
set_option maxHeartbeats 4000000 in
set_option maxRecDepth 100000 in
theorem lc_6 {X : ZX} (hX : ZOK X 9 cL_law 6) {L : Nat} {xs : Nat → Int32} (hS : ZSc X L xs) (hL : L ≤ 2560) {k N : Nat} (hk : k + 5 ≤ L) (hN : 5 * N = k) (a : Nat → Nat → Int32) (b : Nat → Nat → Int64) (f : Nat → Nat → Int32) (g : Nat → Nat → Int64) (a' : Nat → Nat → Int32) (b' : Nat → Nat → Int64) (c' : Nat → Int32) (hR : Rel N a b f g a' b' c') (next : ∀ (a1 : Nat → Nat → Int32) (b1 : Nat → Nat → Int64) (f1 : Nat → Nat → Int32) (g1 : Nat → Nat → Int64) (a2 : Nat → Nat → Int32) (b2 : Nat → Nat → Int64) (c2 : Nat → Int32), Rel (N + 1) a1 b1 f1 g1 a2 b2 c2 → ZG X 892 [some (.ref 1003), some (.ref 0), some (.ref 59), some (.int (nI k))] [] (LW a1 b1 f1 g1 a2 b2 c2)) : ZG X 296 [some (.ref 1003), some (.ref 0), some (.ref 59), some (.int (nI k))] [] (LW a b f g a' b' c') := by
  obtain ⟨P5, P6, hM5, hM6, hst⟩ := k_item hR (xs (k + 1)) (xs (k + 2)) (xs (k + 3)) (xs (k + 4))
  refine z_aload_n hX dL_law_296 rfl ?_
  refine z_aload_n hX dL_law_297 rfl ?_
  refine z_iload_n hX dL_law_298 rfl ?_
  refine z_iconst (v := nI 1) hX dL_law_299 rfl ?_
  refine z_iaddN hX dL_law_300 ?_
  refine z_sld hX hS dL_law_301 (by omega) (by omega) ?_
  refine z_aload_n hX dL_law_302 rfl ?_
  refine z_iload_n hX dL_law_303 rfl ?_
  refine z_iconst (v := nI 2) hX dL_law_304 rfl ?_
  refine z_iaddN hX dL_law_305 ?_
  refine z_sld hX hS dL_law_306 (by omega) (by omega) ?_
  refine z_aload_n hX dL_law_307 rfl ?_
  refine z_iload_n hX dL_law_308 rfl ?_
  refine z_iconst (v := nI 3) hX dL_law_309 rfl ?_
  refine z_iaddN hX dL_law_310 ?_
  refine z_sld hX hS dL_law_311 (by omega) (by omega) ?_
  refine z_aload_n hX dL_law_312 rfl ?_
  refine z_iload_n hX dL_law_313 rfl ?_
  refine z_iconst (v := nI 4) hX dL_law_314 rfl ?_
  refine z_iaddN hX dL_law_315 ?_
  refine z_sld hX hS dL_law_316 (by omega) (by omega) ?_
  refine z_callV hX dL_law_317 mv_9_42 is5 hM5 (by decide) rfl rfl (lw_sub5 a b f g a' b' c') (by decide +kernel) (Nat.le_of_ble_eq_true rfl) rfl rfl (Nat.le_of_ble_eq_true rfl) (fun r w1 hp5 _ => ?_)
  refine z_aload_n hX dL_law_320 rfl ?_
  refine z_aload_n hX dL_law_321 rfl ?_
  refine z_iload_n hX dL_law_322 rfl ?_
  refine z_iconst (v := nI 1) hX dL_law_323 rfl ?_
  refine z_iaddN hX dL_law_324 ?_
  refine z_sld hX hS dL_law_325 (by omega) (by omega) ?_
  refine z_aload_n hX dL_law_326 rfl ?_
  refine z_iload_n hX dL_law_327 rfl ?_
  refine z_iconst (v := nI 2) hX dL_law_328 rfl ?_
  refine z_iaddN hX dL_law_329 ?_
  refine z_sld hX hS dL_law_330 (by omega) (by omega) ?_
  refine z_aload_n hX dL_law_331 rfl ?_
  refine z_iload_n hX dL_law_332 rfl ?_
  refine z_iconst (v := nI 3) hX dL_law_333 rfl ?_
  refine z_iaddN hX dL_law_334 ?_
  refine z_sld hX hS dL_law_335 (by omega) (by omega) ?_
  refine z_aload_n hX dL_law_336 rfl ?_
  refine z_iload_n hX dL_law_337 rfl ?_
  refine z_iconst (v := nI 4) hX dL_law_338 rfl ?_
  refine z_iaddN hX dL_law_339 ?_
  refine z_sld hX hS dL_law_340 (by omega) (by omega) ?_
  refine z_callV hX dL_law_341 mv_9_46 is6 hM6 (by decide) rfl rfl (lw_sub6 a b f g a' b' c' w1) (by decide +kernel) (Nat.le_of_ble_eq_true rfl) rfl rfl (zpg_room _ r) (fun r2 w2 hp6 _ => ?_)
  obtain ⟨a1, b1, f1, g1, a2, b2, c2, v, rfl, rfl, hR1, rfl, rfl⟩ := hst r r2 w1 w2 hp5 hp6
  refine z_norm (ls' := [some (.ref 1003), some (.ref 0), some (.ref 59), some (.int (nI k))]) rfl rfl (lw_put a b f g a' b' c' a1 b1 f1 g1 a2 b2 c2) ?_
  exact z_icmp_eq (tgt := 892) hX dL_law_344 (by decide) (fun _ => next a1 b1 f1 g1 a2 b2 c2 hR1) (fun c => absurd rfl c)
set_option maxHeartbeats 4000000 in
set_option maxRecDepth 100000 in
theorem lc_7 {X : ZX} (hX : ZOK X 9 cL_law 6) {L : Nat} {xs : Nat → Int32} (hS : ZSc X L xs) (hL : L ≤ 2560) {k N : Nat} (hk : k + 5 ≤ L) (hN : 5 * N = k) (a : Nat → Nat → Int32) (b : Nat → Nat → Int64) (f : Nat → Nat → Int32) (g : Nat → Nat → Int64) (a' : Nat → Nat → Int32) (b' : Nat → Nat → Int64) (c' : Nat → Int32) (hR : Rel N a b f g a' b' c') (next : ∀ (a1 : Nat → Nat → Int32) (b1 : Nat → Nat → Int64) (f1 : Nat → Nat → Int32) (g1 : Nat → Nat → Int64) (a2 : Nat → Nat → Int32) (b2 : Nat → Nat → Int64) (c2 : Nat → Int32), Rel (N + 1) a1 b1 f1 g1 a2 b2 c2 → ZG X 892 [some (.ref 1003), some (.ref 0), some (.ref 59), some (.int (nI k))] [] (LW a1 b1 f1 g1 a2 b2 c2)) : ZG X 349 [some (.ref 1003), some (.ref 0), some (.ref 59), some (.int (nI k))] [] (LW a b f g a' b' c') := by
  obtain ⟨P5, P6, hM5, hM6, hst⟩ := k_source hR (xs (k + 1)) (xs (k + 2)) (xs (k + 3)) (xs (k + 4))
  refine z_aload_n hX dL_law_349 rfl ?_
  refine z_aload_n hX dL_law_350 rfl ?_
  refine z_iload_n hX dL_law_351 rfl ?_
  refine z_iconst (v := nI 1) hX dL_law_352 rfl ?_
  refine z_iaddN hX dL_law_353 ?_
  refine z_sld hX hS dL_law_354 (by omega) (by omega) ?_
  refine z_aload_n hX dL_law_355 rfl ?_
  refine z_iload_n hX dL_law_356 rfl ?_
  refine z_iconst (v := nI 2) hX dL_law_357 rfl ?_
  refine z_iaddN hX dL_law_358 ?_
  refine z_sld hX hS dL_law_359 (by omega) (by omega) ?_
  refine z_aload_n hX dL_law_360 rfl ?_
  refine z_iload_n hX dL_law_361 rfl ?_
  refine z_iconst (v := nI 3) hX dL_law_362 rfl ?_
  refine z_iaddN hX dL_law_363 ?_
  refine z_sld hX hS dL_law_364 (by omega) (by omega) ?_
  refine z_aload_n hX dL_law_365 rfl ?_
  refine z_iload_n hX dL_law_366 rfl ?_
  refine z_iconst (v := nI 4) hX dL_law_367 rfl ?_
  refine z_iaddN hX dL_law_368 ?_
  refine z_sld hX hS dL_law_369 (by omega) (by omega) ?_
  refine z_callV hX dL_law_370 mv_9_47 is5 hM5 (by decide) rfl rfl (lw_sub5 a b f g a' b' c') (by decide +kernel) (Nat.le_of_ble_eq_true rfl) rfl rfl (Nat.le_of_ble_eq_true rfl) (fun r w1 hp5 _ => ?_)
  refine z_aload_n hX dL_law_373 rfl ?_
  refine z_aload_n hX dL_law_374 rfl ?_
  refine z_iload_n hX dL_law_375 rfl ?_
  refine z_iconst (v := nI 1) hX dL_law_376 rfl ?_
  refine z_iaddN hX dL_law_377 ?_
  refine z_sld hX hS dL_law_378 (by omega) (by omega) ?_
  refine z_aload_n hX dL_law_379 rfl ?_
  refine z_iload_n hX dL_law_380 rfl ?_
  refine z_iconst (v := nI 2) hX dL_law_381 rfl ?_
  refine z_iaddN hX dL_law_382 ?_
  refine z_sld hX hS dL_law_383 (by omega) (by omega) ?_
  refine z_aload_n hX dL_law_384 rfl ?_
  refine z_iload_n hX dL_law_385 rfl ?_
  refine z_iconst (v := nI 3) hX dL_law_386 rfl ?_
  refine z_iaddN hX dL_law_387 ?_
  refine z_sld hX hS dL_law_388 (by omega) (by omega) ?_
  refine z_aload_n hX dL_law_389 rfl ?_
  refine z_iload_n hX dL_law_390 rfl ?_
  refine z_iconst (v := nI 4) hX dL_law_391 rfl ?_
  refine z_iaddN hX dL_law_392 ?_
  refine z_sld hX hS dL_law_393 (by omega) (by omega) ?_
  refine z_callV hX dL_law_394 mv_9_50 is6 hM6 (by decide) rfl rfl (lw_sub6 a b f g a' b' c' w1) (by decide +kernel) (Nat.le_of_ble_eq_true rfl) rfl rfl (zpg_room _ r) (fun r2 w2 hp6 _ => ?_)
  obtain ⟨a1, b1, f1, g1, a2, b2, c2, v, rfl, rfl, hR1, rfl, rfl⟩ := hst r r2 w1 w2 hp5 hp6
  refine z_norm (ls' := [some (.ref 1003), some (.ref 0), some (.ref 59), some (.int (nI k))]) rfl rfl (lw_put a b f g a' b' c' a1 b1 f1 g1 a2 b2 c2) ?_
  exact z_icmp_eq (tgt := 892) hX dL_law_397 (by decide) (fun _ => next a1 b1 f1 g1 a2 b2 c2 hR1) (fun c => absurd rfl c)
set_option maxHeartbeats 4000000 in
set_option maxRecDepth 100000 in
theorem lc_8 {X : ZX} (hX : ZOK X 9 cL_law 6) {L : Nat} {xs : Nat → Int32} (hS : ZSc X L xs) (hL : L ≤ 2560) {k N : Nat} (hk : k + 5 ≤ L) (hN : 5 * N = k) (a : Nat → Nat → Int32) (b : Nat → Nat → Int64) (f : Nat → Nat → Int32) (g : Nat → Nat → Int64) (a' : Nat → Nat → Int32) (b' : Nat → Nat → Int64) (c' : Nat → Int32) (hR : Rel N a b f g a' b' c') (next : ∀ (a1 : Nat → Nat → Int32) (b1 : Nat → Nat → Int64) (f1 : Nat → Nat → Int32) (g1 : Nat → Nat → Int64) (a2 : Nat → Nat → Int32) (b2 : Nat → Nat → Int64) (c2 : Nat → Int32), Rel (N + 1) a1 b1 f1 g1 a2 b2 c2 → ZG X 892 [some (.ref 1003), some (.ref 0), some (.ref 59), some (.int (nI k))] [] (LW a1 b1 f1 g1 a2 b2 c2)) : ZG X 402 [some (.ref 1003), some (.ref 0), some (.ref 59), some (.int (nI k))] [] (LW a b f g a' b' c') := by
  obtain ⟨P5, P6, hM5, hM6, hst⟩ := k_door hR (xs (k + 1)) (xs (k + 2))
  refine z_aload_n hX dL_law_402 rfl ?_
  refine z_aload_n hX dL_law_403 rfl ?_
  refine z_iload_n hX dL_law_404 rfl ?_
  refine z_iconst (v := nI 1) hX dL_law_405 rfl ?_
  refine z_iaddN hX dL_law_406 ?_
  refine z_sld hX hS dL_law_407 (by omega) (by omega) ?_
  refine z_aload_n hX dL_law_408 rfl ?_
  refine z_iload_n hX dL_law_409 rfl ?_
  refine z_iconst (v := nI 2) hX dL_law_410 rfl ?_
  refine z_iaddN hX dL_law_411 ?_
  refine z_sld hX hS dL_law_412 (by omega) (by omega) ?_
  refine z_callV hX dL_law_413 mv_9_51 is5 hM5 (by decide) rfl rfl (lw_sub5 a b f g a' b' c') (by decide +kernel) (Nat.le_of_ble_eq_true rfl) rfl rfl (Nat.le_of_ble_eq_true rfl) (fun r w1 hp5 _ => ?_)
  refine z_aload_n hX dL_law_416 rfl ?_
  refine z_aload_n hX dL_law_417 rfl ?_
  refine z_iload_n hX dL_law_418 rfl ?_
  refine z_iconst (v := nI 1) hX dL_law_419 rfl ?_
  refine z_iaddN hX dL_law_420 ?_
  refine z_sld hX hS dL_law_421 (by omega) (by omega) ?_
  refine z_aload_n hX dL_law_422 rfl ?_
  refine z_iload_n hX dL_law_423 rfl ?_
  refine z_iconst (v := nI 2) hX dL_law_424 rfl ?_
  refine z_iaddN hX dL_law_425 ?_
  refine z_sld hX hS dL_law_426 (by omega) (by omega) ?_
  refine z_callV hX dL_law_427 mv_9_54 is6 hM6 (by decide) rfl rfl (lw_sub6 a b f g a' b' c' w1) (by decide +kernel) (Nat.le_of_ble_eq_true rfl) rfl rfl (zpg_room _ r) (fun r2 w2 hp6 _ => ?_)
  obtain ⟨a1, b1, f1, g1, a2, b2, c2, v, rfl, rfl, hR1, rfl, rfl⟩ := hst r r2 w1 w2 hp5 hp6
  refine z_norm (ls' := [some (.ref 1003), some (.ref 0), some (.ref 59), some (.int (nI k))]) rfl rfl (lw_put a b f g a' b' c' a1 b1 f1 g1 a2 b2 c2) ?_
  exact z_icmp_eq (tgt := 892) hX dL_law_430 (by decide) (fun _ => next a1 b1 f1 g1 a2 b2 c2 hR1) (fun c => absurd rfl c)
set_option maxHeartbeats 4000000 in
set_option maxRecDepth 100000 in
theorem lc_9 {X : ZX} (hX : ZOK X 9 cL_law 6) {L : Nat} {xs : Nat → Int32} (hS : ZSc X L xs) (hL : L ≤ 2560) {k N : Nat} (hk : k + 5 ≤ L) (hN : 5 * N = k) (a : Nat → Nat → Int32) (b : Nat → Nat → Int64) (f : Nat → Nat → Int32) (g : Nat → Nat → Int64) (a' : Nat → Nat → Int32) (b' : Nat → Nat → Int64) (c' : Nat → Int32) (hR : Rel N a b f g a' b' c') (next : ∀ (a1 : Nat → Nat → Int32) (b1 : Nat → Nat → Int64) (f1 : Nat → Nat → Int32) (g1 : Nat → Nat → Int64) (a2 : Nat → Nat → Int32) (b2 : Nat → Nat → Int64) (c2 : Nat → Int32), Rel (N + 1) a1 b1 f1 g1 a2 b2 c2 → ZG X 892 [some (.ref 1003), some (.ref 0), some (.ref 59), some (.int (nI k))] [] (LW a1 b1 f1 g1 a2 b2 c2)) : ZG X 435 [some (.ref 1003), some (.ref 0), some (.ref 59), some (.int (nI k))] [] (LW a b f g a' b' c') := by
  by_cases hz : xs (k + 2) = 0
  · obtain ⟨P5, P6, hM5, hM6, hst⟩ := k_lose hR (xs (k + 1)) (nI 0) (Or.inl rfl)
    refine z_aload_n hX dL_law_435 rfl ?_
    refine z_aload_n hX dL_law_436 rfl ?_
    refine z_iload_n hX dL_law_437 rfl ?_
    refine z_iconst (v := nI 1) hX dL_law_438 rfl ?_
    refine z_iaddN hX dL_law_439 ?_
    refine z_sld hX hS dL_law_440 (by omega) (by omega) ?_
    refine z_aload_n hX dL_law_441 rfl ?_
    refine z_iload_n hX dL_law_442 rfl ?_
    refine z_iconst (v := nI 2) hX dL_law_443 rfl ?_
    refine z_iaddN hX dL_law_444 ?_
    refine z_sld hX hS dL_law_445 (by omega) (by omega) ?_
    refine z_if_eq (tgt := 453) hX dL_law_446 (by decide) (fun _ => ?_) (fun c => absurd hz c)
    refine z_iconst (v := nI 0) hX dL_law_453 rfl ?_
    refine z_callV hX dL_law_454 mv_9_55 is5 hM5 (by decide) rfl rfl (lw_sub5 a b f g a' b' c') (by decide +kernel) (Nat.le_of_ble_eq_true rfl) rfl rfl (Nat.le_of_ble_eq_true rfl) (fun r w1 hp5 _ => ?_)
    refine z_aload_n hX dL_law_457 rfl ?_
    refine z_aload_n hX dL_law_458 rfl ?_
    refine z_iload_n hX dL_law_459 rfl ?_
    refine z_iconst (v := nI 1) hX dL_law_460 rfl ?_
    refine z_iaddN hX dL_law_461 ?_
    refine z_sld hX hS dL_law_462 (by omega) (by omega) ?_
    refine z_aload_n hX dL_law_463 rfl ?_
    refine z_iload_n hX dL_law_464 rfl ?_
    refine z_iconst (v := nI 2) hX dL_law_465 rfl ?_
    refine z_iaddN hX dL_law_466 ?_
    refine z_sld hX hS dL_law_467 (by omega) (by omega) ?_
    refine z_if_eq (tgt := 475) hX dL_law_468 (by decide) (fun _ => ?_) (fun c => absurd hz c)
    refine z_iconst (v := nI 0) hX dL_law_475 rfl ?_
    refine z_callV hX dL_law_476 mv_9_59 is6 hM6 (by decide) rfl rfl (lw_sub6 a b f g a' b' c' w1) (by decide +kernel) (Nat.le_of_ble_eq_true rfl) rfl rfl (zpg_room _ r) (fun r2 w2 hp6 _ => ?_)
    obtain ⟨a1, b1, f1, g1, a2, b2, c2, v, rfl, rfl, hR1, rfl, rfl⟩ := hst r r2 w1 w2 hp5 hp6
    refine z_norm (ls' := [some (.ref 1003), some (.ref 0), some (.ref 59), some (.int (nI k))]) rfl rfl (lw_put a b f g a' b' c' a1 b1 f1 g1 a2 b2 c2) ?_
    exact z_icmp_eq (tgt := 892) hX dL_law_479 (by decide) (fun _ => next a1 b1 f1 g1 a2 b2 c2 hR1) (fun c => absurd rfl c)
  · obtain ⟨P5, P6, hM5, hM6, hst⟩ := k_lose hR (xs (k + 1)) (nI 1) (Or.inr rfl)
    refine z_aload_n hX dL_law_435 rfl ?_
    refine z_aload_n hX dL_law_436 rfl ?_
    refine z_iload_n hX dL_law_437 rfl ?_
    refine z_iconst (v := nI 1) hX dL_law_438 rfl ?_
    refine z_iaddN hX dL_law_439 ?_
    refine z_sld hX hS dL_law_440 (by omega) (by omega) ?_
    refine z_aload_n hX dL_law_441 rfl ?_
    refine z_iload_n hX dL_law_442 rfl ?_
    refine z_iconst (v := nI 2) hX dL_law_443 rfl ?_
    refine z_iaddN hX dL_law_444 ?_
    refine z_sld hX hS dL_law_445 (by omega) (by omega) ?_
    refine z_if_eq (tgt := 453) hX dL_law_446 (by decide) (fun c => absurd c hz) (fun _ => ?_)
    refine z_iconst (v := nI 1) hX dL_law_449 rfl ?_
    refine z_goto (tgt := 454) hX dL_law_450 (by decide) ?_
    refine z_callV hX dL_law_454 mv_9_55 is5 hM5 (by decide) rfl rfl (lw_sub5 a b f g a' b' c') (by decide +kernel) (Nat.le_of_ble_eq_true rfl) rfl rfl (Nat.le_of_ble_eq_true rfl) (fun r w1 hp5 _ => ?_)
    refine z_aload_n hX dL_law_457 rfl ?_
    refine z_aload_n hX dL_law_458 rfl ?_
    refine z_iload_n hX dL_law_459 rfl ?_
    refine z_iconst (v := nI 1) hX dL_law_460 rfl ?_
    refine z_iaddN hX dL_law_461 ?_
    refine z_sld hX hS dL_law_462 (by omega) (by omega) ?_
    refine z_aload_n hX dL_law_463 rfl ?_
    refine z_iload_n hX dL_law_464 rfl ?_
    refine z_iconst (v := nI 2) hX dL_law_465 rfl ?_
    refine z_iaddN hX dL_law_466 ?_
    refine z_sld hX hS dL_law_467 (by omega) (by omega) ?_
    refine z_if_eq (tgt := 475) hX dL_law_468 (by decide) (fun c => absurd c hz) (fun _ => ?_)
    refine z_iconst (v := nI 1) hX dL_law_471 rfl ?_
    refine z_goto (tgt := 476) hX dL_law_472 (by decide) ?_
    refine z_callV hX dL_law_476 mv_9_59 is6 hM6 (by decide) rfl rfl (lw_sub6 a b f g a' b' c' w1) (by decide +kernel) (Nat.le_of_ble_eq_true rfl) rfl rfl (zpg_room _ r) (fun r2 w2 hp6 _ => ?_)
    obtain ⟨a1, b1, f1, g1, a2, b2, c2, v, rfl, rfl, hR1, rfl, rfl⟩ := hst r r2 w1 w2 hp5 hp6
    refine z_norm (ls' := [some (.ref 1003), some (.ref 0), some (.ref 59), some (.int (nI k))]) rfl rfl (lw_put a b f g a' b' c' a1 b1 f1 g1 a2 b2 c2) ?_
    exact z_icmp_eq (tgt := 892) hX dL_law_479 (by decide) (fun _ => next a1 b1 f1 g1 a2 b2 c2 hR1) (fun c => absurd rfl c)
set_option maxHeartbeats 4000000 in
set_option maxRecDepth 100000 in
theorem lc_10 {X : ZX} (hX : ZOK X 9 cL_law 6) {L : Nat} {xs : Nat → Int32} (hS : ZSc X L xs) (hL : L ≤ 2560) {k N : Nat} (hk : k + 5 ≤ L) (hN : 5 * N = k) (a : Nat → Nat → Int32) (b : Nat → Nat → Int64) (f : Nat → Nat → Int32) (g : Nat → Nat → Int64) (a' : Nat → Nat → Int32) (b' : Nat → Nat → Int64) (c' : Nat → Int32) (hR : Rel N a b f g a' b' c') (next : ∀ (a1 : Nat → Nat → Int32) (b1 : Nat → Nat → Int64) (f1 : Nat → Nat → Int32) (g1 : Nat → Nat → Int64) (a2 : Nat → Nat → Int32) (b2 : Nat → Nat → Int64) (c2 : Nat → Int32), Rel (N + 1) a1 b1 f1 g1 a2 b2 c2 → ZG X 892 [some (.ref 1003), some (.ref 0), some (.ref 59), some (.int (nI k))] [] (LW a1 b1 f1 g1 a2 b2 c2)) : ZG X 484 [some (.ref 1003), some (.ref 0), some (.ref 59), some (.int (nI k))] [] (LW a b f g a' b' c') := by
  obtain ⟨P5, P6, hM5, hM6, hst⟩ := k_hours (by omega) hR (xs (k + 1)) (xs (k + 2))
  refine z_aload_n hX dL_law_484 rfl ?_
  refine z_aload_n hX dL_law_485 rfl ?_
  refine z_iload_n hX dL_law_486 rfl ?_
  refine z_iconst (v := nI 1) hX dL_law_487 rfl ?_
  refine z_iaddN hX dL_law_488 ?_
  refine z_sld hX hS dL_law_489 (by omega) (by omega) ?_
  refine z_aload_n hX dL_law_490 rfl ?_
  refine z_iload_n hX dL_law_491 rfl ?_
  refine z_iconst (v := nI 2) hX dL_law_492 rfl ?_
  refine z_iaddN hX dL_law_493 ?_
  refine z_sld hX hS dL_law_494 (by omega) (by omega) ?_
  refine z_callV hX dL_law_495 mv_9_60 is5 hM5 (by decide) rfl rfl (lw_sub5 a b f g a' b' c') (by decide +kernel) (Nat.le_of_ble_eq_true rfl) rfl rfl (Nat.le_of_ble_eq_true rfl) (fun r w1 hp5 _ => ?_)
  refine z_aload_n hX dL_law_498 rfl ?_
  refine z_aload_n hX dL_law_499 rfl ?_
  refine z_iload_n hX dL_law_500 rfl ?_
  refine z_iconst (v := nI 1) hX dL_law_501 rfl ?_
  refine z_iaddN hX dL_law_502 ?_
  refine z_sld hX hS dL_law_503 (by omega) (by omega) ?_
  refine z_aload_n hX dL_law_504 rfl ?_
  refine z_iload_n hX dL_law_505 rfl ?_
  refine z_iconst (v := nI 2) hX dL_law_506 rfl ?_
  refine z_iaddN hX dL_law_507 ?_
  refine z_sld hX hS dL_law_508 (by omega) (by omega) ?_
  refine z_callV hX dL_law_509 mv_9_63 is6 hM6 (by decide) rfl rfl (lw_sub6 a b f g a' b' c' w1) (by decide +kernel) (Nat.le_of_ble_eq_true rfl) rfl rfl (zpg_room _ r) (fun r2 w2 hp6 _ => ?_)
  obtain ⟨a1, b1, f1, g1, a2, b2, c2, v, rfl, rfl, hR1, rfl, rfl⟩ := hst r r2 w1 w2 hp5 hp6
  refine z_norm (ls' := [some (.ref 1003), some (.ref 0), some (.ref 59), some (.int (nI k))]) rfl rfl (lw_put a b f g a' b' c' a1 b1 f1 g1 a2 b2 c2) ?_
  exact z_icmp_eq (tgt := 892) hX dL_law_512 (by decide) (fun _ => next a1 b1 f1 g1 a2 b2 c2 hR1) (fun c => absurd rfl c)
set_option maxHeartbeats 4000000 in
set_option maxRecDepth 100000 in
theorem lc_11 {X : ZX} (hX : ZOK X 9 cL_law 6) {L : Nat} {xs : Nat → Int32} (hS : ZSc X L xs) (hL : L ≤ 2560) {k N : Nat} (hk : k + 5 ≤ L) (hN : 5 * N = k) (a : Nat → Nat → Int32) (b : Nat → Nat → Int64) (f : Nat → Nat → Int32) (g : Nat → Nat → Int64) (a' : Nat → Nat → Int32) (b' : Nat → Nat → Int64) (c' : Nat → Int32) (hR : Rel N a b f g a' b' c') (next : ∀ (a1 : Nat → Nat → Int32) (b1 : Nat → Nat → Int64) (f1 : Nat → Nat → Int32) (g1 : Nat → Nat → Int64) (a2 : Nat → Nat → Int32) (b2 : Nat → Nat → Int64) (c2 : Nat → Int32), Rel (N + 1) a1 b1 f1 g1 a2 b2 c2 → ZG X 892 [some (.ref 1003), some (.ref 0), some (.ref 59), some (.int (nI k))] [] (LW a1 b1 f1 g1 a2 b2 c2)) : ZG X 517 [some (.ref 1003), some (.ref 0), some (.ref 59), some (.int (nI k))] [] (LW a b f g a' b' c') := by
  obtain ⟨P5, P6, hM5, hM6, hst⟩ := k_grains hR (xs (k + 1)) (xs (k + 2))
  refine z_aload_n hX dL_law_517 rfl ?_
  refine z_aload_n hX dL_law_518 rfl ?_
  refine z_iload_n hX dL_law_519 rfl ?_
  refine z_iconst (v := nI 1) hX dL_law_520 rfl ?_
  refine z_iaddN hX dL_law_521 ?_
  refine z_sld hX hS dL_law_522 (by omega) (by omega) ?_
  refine z_aload_n hX dL_law_523 rfl ?_
  refine z_iload_n hX dL_law_524 rfl ?_
  refine z_iconst (v := nI 2) hX dL_law_525 rfl ?_
  refine z_iaddN hX dL_law_526 ?_
  refine z_sld hX hS dL_law_527 (by omega) (by omega) ?_
  refine z_callV hX dL_law_528 mv_9_64 is5 hM5 (by decide) rfl rfl (lw_sub5 a b f g a' b' c') (by decide +kernel) (Nat.le_of_ble_eq_true rfl) rfl rfl (Nat.le_of_ble_eq_true rfl) (fun r w1 hp5 _ => ?_)
  refine z_aload_n hX dL_law_531 rfl ?_
  refine z_aload_n hX dL_law_532 rfl ?_
  refine z_iload_n hX dL_law_533 rfl ?_
  refine z_iconst (v := nI 1) hX dL_law_534 rfl ?_
  refine z_iaddN hX dL_law_535 ?_
  refine z_sld hX hS dL_law_536 (by omega) (by omega) ?_
  refine z_aload_n hX dL_law_537 rfl ?_
  refine z_iload_n hX dL_law_538 rfl ?_
  refine z_iconst (v := nI 2) hX dL_law_539 rfl ?_
  refine z_iaddN hX dL_law_540 ?_
  refine z_sld hX hS dL_law_541 (by omega) (by omega) ?_
  refine z_callV hX dL_law_542 mv_9_68 is6 hM6 (by decide) rfl rfl (lw_sub6 a b f g a' b' c' w1) (by decide +kernel) (Nat.le_of_ble_eq_true rfl) rfl rfl (zpg_room _ r) (fun r2 w2 hp6 _ => ?_)
  obtain ⟨a1, b1, f1, g1, a2, b2, c2, v, rfl, rfl, hR1, rfl, rfl⟩ := hst r r2 w1 w2 hp5 hp6
  refine z_norm (ls' := [some (.ref 1003), some (.ref 0), some (.ref 59), some (.int (nI k))]) rfl rfl (lw_put a b f g a' b' c' a1 b1 f1 g1 a2 b2 c2) ?_
  refine z_lcmp hX dL_law_545 ?_
  exact z_lif_eq (tgt := 892) hX dL_law_546 (by decide) (fun _ => next a1 b1 f1 g1 a2 b2 c2 hR1) (fun c => absurd rfl c)
set_option maxHeartbeats 4000000 in
set_option maxRecDepth 100000 in
theorem lc_12 {X : ZX} (hX : ZOK X 9 cL_law 6) {L : Nat} {xs : Nat → Int32} (hS : ZSc X L xs) (hL : L ≤ 2560) {k N : Nat} (hk : k + 5 ≤ L) (hN : 5 * N = k) (a : Nat → Nat → Int32) (b : Nat → Nat → Int64) (f : Nat → Nat → Int32) (g : Nat → Nat → Int64) (a' : Nat → Nat → Int32) (b' : Nat → Nat → Int64) (c' : Nat → Int32) (hR : Rel N a b f g a' b' c') (next : ∀ (a1 : Nat → Nat → Int32) (b1 : Nat → Nat → Int64) (f1 : Nat → Nat → Int32) (g1 : Nat → Nat → Int64) (a2 : Nat → Nat → Int32) (b2 : Nat → Nat → Int64) (c2 : Nat → Int32), Rel (N + 1) a1 b1 f1 g1 a2 b2 c2 → ZG X 892 [some (.ref 1003), some (.ref 0), some (.ref 59), some (.int (nI k))] [] (LW a1 b1 f1 g1 a2 b2 c2)) : ZG X 551 [some (.ref 1003), some (.ref 0), some (.ref 59), some (.int (nI k))] [] (LW a b f g a' b' c') := by
  obtain ⟨P5, P6, hM5, hM6, hst⟩ := k_total hR (xs (k + 1)) (xs (k + 2))
  refine z_aload_n hX dL_law_551 rfl ?_
  refine z_aload_n hX dL_law_552 rfl ?_
  refine z_iload_n hX dL_law_553 rfl ?_
  refine z_iconst (v := nI 1) hX dL_law_554 rfl ?_
  refine z_iaddN hX dL_law_555 ?_
  refine z_sld hX hS dL_law_556 (by omega) (by omega) ?_
  refine z_aload_n hX dL_law_557 rfl ?_
  refine z_iload_n hX dL_law_558 rfl ?_
  refine z_iconst (v := nI 2) hX dL_law_559 rfl ?_
  refine z_iaddN hX dL_law_560 ?_
  refine z_sld hX hS dL_law_561 (by omega) (by omega) ?_
  refine z_callV hX dL_law_562 mv_9_69 is5 hM5 (by decide) rfl rfl (lw_sub5 a b f g a' b' c') (by decide +kernel) (Nat.le_of_ble_eq_true rfl) rfl rfl (Nat.le_of_ble_eq_true rfl) (fun r w1 hp5 _ => ?_)
  refine z_aload_n hX dL_law_565 rfl ?_
  refine z_aload_n hX dL_law_566 rfl ?_
  refine z_iload_n hX dL_law_567 rfl ?_
  refine z_iconst (v := nI 1) hX dL_law_568 rfl ?_
  refine z_iaddN hX dL_law_569 ?_
  refine z_sld hX hS dL_law_570 (by omega) (by omega) ?_
  refine z_aload_n hX dL_law_571 rfl ?_
  refine z_iload_n hX dL_law_572 rfl ?_
  refine z_iconst (v := nI 2) hX dL_law_573 rfl ?_
  refine z_iaddN hX dL_law_574 ?_
  refine z_sld hX hS dL_law_575 (by omega) (by omega) ?_
  refine z_callV hX dL_law_576 mv_9_72 is6 hM6 (by decide) rfl rfl (lw_sub6 a b f g a' b' c' w1) (by decide +kernel) (Nat.le_of_ble_eq_true rfl) rfl rfl (zpg_room _ r) (fun r2 w2 hp6 _ => ?_)
  obtain ⟨a1, b1, f1, g1, a2, b2, c2, v, rfl, rfl, hR1, rfl, rfl⟩ := hst r r2 w1 w2 hp5 hp6
  refine z_norm (ls' := [some (.ref 1003), some (.ref 0), some (.ref 59), some (.int (nI k))]) rfl rfl (lw_put a b f g a' b' c' a1 b1 f1 g1 a2 b2 c2) ?_
  refine z_lcmp hX dL_law_579 ?_
  exact z_lif_eq (tgt := 892) hX dL_law_580 (by decide) (fun _ => next a1 b1 f1 g1 a2 b2 c2 hR1) (fun c => absurd rfl c)
set_option maxHeartbeats 4000000 in
set_option maxRecDepth 100000 in
theorem lc_13 {X : ZX} (hX : ZOK X 9 cL_law 6) {L : Nat} {xs : Nat → Int32} (hS : ZSc X L xs) (hL : L ≤ 2560) {k N : Nat} (hk : k + 5 ≤ L) (hN : 5 * N = k) (a : Nat → Nat → Int32) (b : Nat → Nat → Int64) (f : Nat → Nat → Int32) (g : Nat → Nat → Int64) (a' : Nat → Nat → Int32) (b' : Nat → Nat → Int64) (c' : Nat → Int32) (hR : Rel N a b f g a' b' c') (next : ∀ (a1 : Nat → Nat → Int32) (b1 : Nat → Nat → Int64) (f1 : Nat → Nat → Int32) (g1 : Nat → Nat → Int64) (a2 : Nat → Nat → Int32) (b2 : Nat → Nat → Int64) (c2 : Nat → Int32), Rel (N + 1) a1 b1 f1 g1 a2 b2 c2 → ZG X 892 [some (.ref 1003), some (.ref 0), some (.ref 59), some (.int (nI k))] [] (LW a1 b1 f1 g1 a2 b2 c2)) : ZG X 585 [some (.ref 1003), some (.ref 0), some (.ref 59), some (.int (nI k))] [] (LW a b f g a' b' c') := by
  obtain ⟨P5, P6, hM5, hM6, hst⟩ := k_hour hR (xs (k + 1)) (xs (k + 2)) (xs (k + 3))
  refine z_aload_n hX dL_law_585 rfl ?_
  refine z_aload_n hX dL_law_586 rfl ?_
  refine z_iload_n hX dL_law_587 rfl ?_
  refine z_iconst (v := nI 1) hX dL_law_588 rfl ?_
  refine z_iaddN hX dL_law_589 ?_
  refine z_sld hX hS dL_law_590 (by omega) (by omega) ?_
  refine z_aload_n hX dL_law_591 rfl ?_
  refine z_iload_n hX dL_law_592 rfl ?_
  refine z_iconst (v := nI 2) hX dL_law_593 rfl ?_
  refine z_iaddN hX dL_law_594 ?_
  refine z_sld hX hS dL_law_595 (by omega) (by omega) ?_
  refine z_aload_n hX dL_law_596 rfl ?_
  refine z_iload_n hX dL_law_597 rfl ?_
  refine z_iconst (v := nI 3) hX dL_law_598 rfl ?_
  refine z_iaddN hX dL_law_599 ?_
  refine z_sld hX hS dL_law_600 (by omega) (by omega) ?_
  refine z_callV hX dL_law_601 mv_9_73 is5 hM5 (by decide) rfl rfl (lw_sub5 a b f g a' b' c') (by decide +kernel) (Nat.le_of_ble_eq_true rfl) rfl rfl (Nat.le_of_ble_eq_true rfl) (fun r w1 hp5 _ => ?_)
  refine z_aload_n hX dL_law_604 rfl ?_
  refine z_aload_n hX dL_law_605 rfl ?_
  refine z_iload_n hX dL_law_606 rfl ?_
  refine z_iconst (v := nI 1) hX dL_law_607 rfl ?_
  refine z_iaddN hX dL_law_608 ?_
  refine z_sld hX hS dL_law_609 (by omega) (by omega) ?_
  refine z_aload_n hX dL_law_610 rfl ?_
  refine z_iload_n hX dL_law_611 rfl ?_
  refine z_iconst (v := nI 2) hX dL_law_612 rfl ?_
  refine z_iaddN hX dL_law_613 ?_
  refine z_sld hX hS dL_law_614 (by omega) (by omega) ?_
  refine z_aload_n hX dL_law_615 rfl ?_
  refine z_iload_n hX dL_law_616 rfl ?_
  refine z_iconst (v := nI 3) hX dL_law_617 rfl ?_
  refine z_iaddN hX dL_law_618 ?_
  refine z_sld hX hS dL_law_619 (by omega) (by omega) ?_
  refine z_callV hX dL_law_620 mv_9_77 is6 hM6 (by decide) rfl rfl (lw_sub6 a b f g a' b' c' w1) (by decide +kernel) (Nat.le_of_ble_eq_true rfl) rfl rfl (zpg_room _ r) (fun r2 w2 hp6 _ => ?_)
  obtain ⟨a1, b1, f1, g1, a2, b2, c2, v, rfl, rfl, hR1, rfl, rfl⟩ := hst r r2 w1 w2 hp5 hp6
  refine z_norm (ls' := [some (.ref 1003), some (.ref 0), some (.ref 59), some (.int (nI k))]) rfl rfl (lw_put a b f g a' b' c' a1 b1 f1 g1 a2 b2 c2) ?_
  refine z_lcmp hX dL_law_623 ?_
  exact z_lif_eq (tgt := 892) hX dL_law_624 (by decide) (fun _ => next a1 b1 f1 g1 a2 b2 c2 hR1) (fun c => absurd rfl c)
set_option maxHeartbeats 4000000 in
set_option maxRecDepth 100000 in
theorem lc_14 {X : ZX} (hX : ZOK X 9 cL_law 6) {L : Nat} {xs : Nat → Int32} (hS : ZSc X L xs) (hL : L ≤ 2560) {k N : Nat} (hk : k + 5 ≤ L) (hN : 5 * N = k) (a : Nat → Nat → Int32) (b : Nat → Nat → Int64) (f : Nat → Nat → Int32) (g : Nat → Nat → Int64) (a' : Nat → Nat → Int32) (b' : Nat → Nat → Int64) (c' : Nat → Int32) (hR : Rel N a b f g a' b' c') (next : ∀ (a1 : Nat → Nat → Int32) (b1 : Nat → Nat → Int64) (f1 : Nat → Nat → Int32) (g1 : Nat → Nat → Int64) (a2 : Nat → Nat → Int32) (b2 : Nat → Nat → Int64) (c2 : Nat → Int32), Rel (N + 1) a1 b1 f1 g1 a2 b2 c2 → ZG X 892 [some (.ref 1003), some (.ref 0), some (.ref 59), some (.int (nI k))] [] (LW a1 b1 f1 g1 a2 b2 c2)) : ZG X 629 [some (.ref 1003), some (.ref 0), some (.ref 59), some (.int (nI k))] [] (LW a b f g a' b' c') := by
  obtain ⟨P5, P6, hM5, hM6, hst⟩ := k_kept hR (xs (k + 1)) (xs (k + 2))
  refine z_aload_n hX dL_law_629 rfl ?_
  refine z_aload_n hX dL_law_630 rfl ?_
  refine z_iload_n hX dL_law_631 rfl ?_
  refine z_iconst (v := nI 1) hX dL_law_632 rfl ?_
  refine z_iaddN hX dL_law_633 ?_
  refine z_sld hX hS dL_law_634 (by omega) (by omega) ?_
  refine z_aload_n hX dL_law_635 rfl ?_
  refine z_iload_n hX dL_law_636 rfl ?_
  refine z_iconst (v := nI 2) hX dL_law_637 rfl ?_
  refine z_iaddN hX dL_law_638 ?_
  refine z_sld hX hS dL_law_639 (by omega) (by omega) ?_
  refine z_callV hX dL_law_640 mv_9_78 is5 hM5 (by decide) rfl rfl (lw_sub5 a b f g a' b' c') (by decide +kernel) (Nat.le_of_ble_eq_true rfl) rfl rfl (Nat.le_of_ble_eq_true rfl) (fun r w1 hp5 _ => ?_)
  refine z_aload_n hX dL_law_643 rfl ?_
  refine z_aload_n hX dL_law_644 rfl ?_
  refine z_iload_n hX dL_law_645 rfl ?_
  refine z_iconst (v := nI 1) hX dL_law_646 rfl ?_
  refine z_iaddN hX dL_law_647 ?_
  refine z_sld hX hS dL_law_648 (by omega) (by omega) ?_
  refine z_aload_n hX dL_law_649 rfl ?_
  refine z_iload_n hX dL_law_650 rfl ?_
  refine z_iconst (v := nI 2) hX dL_law_651 rfl ?_
  refine z_iaddN hX dL_law_652 ?_
  refine z_sld hX hS dL_law_653 (by omega) (by omega) ?_
  refine z_callV hX dL_law_654 mv_9_81 is6 hM6 (by decide) rfl rfl (lw_sub6 a b f g a' b' c' w1) (by decide +kernel) (Nat.le_of_ble_eq_true rfl) rfl rfl (zpg_room _ r) (fun r2 w2 hp6 _ => ?_)
  obtain ⟨a1, b1, f1, g1, a2, b2, c2, v, rfl, rfl, hR1, rfl, rfl⟩ := hst r r2 w1 w2 hp5 hp6
  refine z_norm (ls' := [some (.ref 1003), some (.ref 0), some (.ref 59), some (.int (nI k))]) rfl rfl (lw_put a b f g a' b' c' a1 b1 f1 g1 a2 b2 c2) ?_
  exact z_icmp_eq (tgt := 892) hX dL_law_657 (by decide) (fun _ => next a1 b1 f1 g1 a2 b2 c2 hR1) (fun c => absurd rfl c)
set_option maxHeartbeats 4000000 in
set_option maxRecDepth 100000 in
theorem lc_15 {X : ZX} (hX : ZOK X 9 cL_law 6) {L : Nat} {xs : Nat → Int32} (hS : ZSc X L xs) (hL : L ≤ 2560) {k N : Nat} (hk : k + 5 ≤ L) (hN : 5 * N = k) (a : Nat → Nat → Int32) (b : Nat → Nat → Int64) (f : Nat → Nat → Int32) (g : Nat → Nat → Int64) (a' : Nat → Nat → Int32) (b' : Nat → Nat → Int64) (c' : Nat → Int32) (hR : Rel N a b f g a' b' c') (next : ∀ (a1 : Nat → Nat → Int32) (b1 : Nat → Nat → Int64) (f1 : Nat → Nat → Int32) (g1 : Nat → Nat → Int64) (a2 : Nat → Nat → Int32) (b2 : Nat → Nat → Int64) (c2 : Nat → Int32), Rel (N + 1) a1 b1 f1 g1 a2 b2 c2 → ZG X 892 [some (.ref 1003), some (.ref 0), some (.ref 59), some (.int (nI k))] [] (LW a1 b1 f1 g1 a2 b2 c2)) : ZG X 662 [some (.ref 1003), some (.ref 0), some (.ref 59), some (.int (nI k))] [] (LW a b f g a' b' c') := by
  obtain ⟨P5, P6, hM5, hM6, hst⟩ := k_mean hR (xs (k + 1))
  refine z_aload_n hX dL_law_662 rfl ?_
  refine z_aload_n hX dL_law_663 rfl ?_
  refine z_iload_n hX dL_law_664 rfl ?_
  refine z_iconst (v := nI 1) hX dL_law_665 rfl ?_
  refine z_iaddN hX dL_law_666 ?_
  refine z_sld hX hS dL_law_667 (by omega) (by omega) ?_
  refine z_callV hX dL_law_668 mv_9_82 is5 hM5 (by decide) rfl rfl (lw_sub5 a b f g a' b' c') (by decide +kernel) (Nat.le_of_ble_eq_true rfl) rfl rfl (Nat.le_of_ble_eq_true rfl) (fun r w1 hp5 _ => ?_)
  refine z_aload_n hX dL_law_671 rfl ?_
  refine z_aload_n hX dL_law_672 rfl ?_
  refine z_iload_n hX dL_law_673 rfl ?_
  refine z_iconst (v := nI 1) hX dL_law_674 rfl ?_
  refine z_iaddN hX dL_law_675 ?_
  refine z_sld hX hS dL_law_676 (by omega) (by omega) ?_
  refine z_callV hX dL_law_677 mv_9_85 is6 hM6 (by decide) rfl rfl (lw_sub6 a b f g a' b' c' w1) (by decide +kernel) (Nat.le_of_ble_eq_true rfl) rfl rfl (zpg_room _ r) (fun r2 w2 hp6 _ => ?_)
  obtain ⟨a1, b1, f1, g1, a2, b2, c2, v, rfl, rfl, hR1, rfl, rfl⟩ := hst r r2 w1 w2 hp5 hp6
  refine z_norm (ls' := [some (.ref 1003), some (.ref 0), some (.ref 59), some (.int (nI k))]) rfl rfl (lw_put a b f g a' b' c' a1 b1 f1 g1 a2 b2 c2) ?_
  refine z_lcmp hX dL_law_680 ?_
  exact z_lif_eq (tgt := 892) hX dL_law_681 (by decide) (fun _ => next a1 b1 f1 g1 a2 b2 c2 hR1) (fun c => absurd rfl c)
set_option maxHeartbeats 4000000 in
set_option maxRecDepth 100000 in
theorem lc_16 {X : ZX} (hX : ZOK X 9 cL_law 6) {L : Nat} {xs : Nat → Int32} (hS : ZSc X L xs) (hL : L ≤ 2560) {k N : Nat} (hk : k + 5 ≤ L) (hN : 5 * N = k) (a : Nat → Nat → Int32) (b : Nat → Nat → Int64) (f : Nat → Nat → Int32) (g : Nat → Nat → Int64) (a' : Nat → Nat → Int32) (b' : Nat → Nat → Int64) (c' : Nat → Int32) (hR : Rel N a b f g a' b' c') (next : ∀ (a1 : Nat → Nat → Int32) (b1 : Nat → Nat → Int64) (f1 : Nat → Nat → Int32) (g1 : Nat → Nat → Int64) (a2 : Nat → Nat → Int32) (b2 : Nat → Nat → Int64) (c2 : Nat → Int32), Rel (N + 1) a1 b1 f1 g1 a2 b2 c2 → ZG X 892 [some (.ref 1003), some (.ref 0), some (.ref 59), some (.int (nI k))] [] (LW a1 b1 f1 g1 a2 b2 c2)) : ZG X 686 [some (.ref 1003), some (.ref 0), some (.ref 59), some (.int (nI k))] [] (LW a b f g a' b' c') := by
  obtain ⟨P5, P6, hM5, hM6, hst⟩ := k_rank hR (xs (k + 1)) (xs (k + 2))
  refine z_aload_n hX dL_law_686 rfl ?_
  refine z_aload_n hX dL_law_687 rfl ?_
  refine z_iload_n hX dL_law_688 rfl ?_
  refine z_iconst (v := nI 1) hX dL_law_689 rfl ?_
  refine z_iaddN hX dL_law_690 ?_
  refine z_sld hX hS dL_law_691 (by omega) (by omega) ?_
  refine z_aload_n hX dL_law_692 rfl ?_
  refine z_iload_n hX dL_law_693 rfl ?_
  refine z_iconst (v := nI 2) hX dL_law_694 rfl ?_
  refine z_iaddN hX dL_law_695 ?_
  refine z_sld hX hS dL_law_696 (by omega) (by omega) ?_
  refine z_callV hX dL_law_697 mv_9_86 is5 hM5 (by decide) rfl rfl (lw_sub5 a b f g a' b' c') (by decide +kernel) (Nat.le_of_ble_eq_true rfl) rfl rfl (Nat.le_of_ble_eq_true rfl) (fun r w1 hp5 _ => ?_)
  refine z_aload_n hX dL_law_700 rfl ?_
  refine z_aload_n hX dL_law_701 rfl ?_
  refine z_iload_n hX dL_law_702 rfl ?_
  refine z_iconst (v := nI 1) hX dL_law_703 rfl ?_
  refine z_iaddN hX dL_law_704 ?_
  refine z_sld hX hS dL_law_705 (by omega) (by omega) ?_
  refine z_aload_n hX dL_law_706 rfl ?_
  refine z_iload_n hX dL_law_707 rfl ?_
  refine z_iconst (v := nI 2) hX dL_law_708 rfl ?_
  refine z_iaddN hX dL_law_709 ?_
  refine z_sld hX hS dL_law_710 (by omega) (by omega) ?_
  refine z_callV hX dL_law_711 mv_9_89 is6 hM6 (by decide) rfl rfl (lw_sub6 a b f g a' b' c' w1) (by decide +kernel) (Nat.le_of_ble_eq_true rfl) rfl rfl (zpg_room _ r) (fun r2 w2 hp6 _ => ?_)
  obtain ⟨a1, b1, f1, g1, a2, b2, c2, v, rfl, rfl, hR1, rfl, rfl⟩ := hst r r2 w1 w2 hp5 hp6
  refine z_norm (ls' := [some (.ref 1003), some (.ref 0), some (.ref 59), some (.int (nI k))]) rfl rfl (lw_put a b f g a' b' c' a1 b1 f1 g1 a2 b2 c2) ?_
  refine z_lcmp hX dL_law_714 ?_
  exact z_lif_eq (tgt := 892) hX dL_law_715 (by decide) (fun _ => next a1 b1 f1 g1 a2 b2 c2 hR1) (fun c => absurd rfl c)
set_option maxHeartbeats 4000000 in
set_option maxRecDepth 100000 in
theorem lc_17 {X : ZX} (hX : ZOK X 9 cL_law 6) {L : Nat} {xs : Nat → Int32} (hS : ZSc X L xs) (hL : L ≤ 2560) {k N : Nat} (hk : k + 5 ≤ L) (hN : 5 * N = k) (a : Nat → Nat → Int32) (b : Nat → Nat → Int64) (f : Nat → Nat → Int32) (g : Nat → Nat → Int64) (a' : Nat → Nat → Int32) (b' : Nat → Nat → Int64) (c' : Nat → Int32) (hR : Rel N a b f g a' b' c') (next : ∀ (a1 : Nat → Nat → Int32) (b1 : Nat → Nat → Int64) (f1 : Nat → Nat → Int32) (g1 : Nat → Nat → Int64) (a2 : Nat → Nat → Int32) (b2 : Nat → Nat → Int64) (c2 : Nat → Int32), Rel (N + 1) a1 b1 f1 g1 a2 b2 c2 → ZG X 892 [some (.ref 1003), some (.ref 0), some (.ref 59), some (.int (nI k))] [] (LW a1 b1 f1 g1 a2 b2 c2)) : ZG X 720 [some (.ref 1003), some (.ref 0), some (.ref 59), some (.int (nI k))] [] (LW a b f g a' b' c') := by
  obtain ⟨P5, P6, hM5, hM6, hst⟩ := k_rolling hR (xs (k + 1)) (xs (k + 2))
  refine z_aload_n hX dL_law_720 rfl ?_
  refine z_aload_n hX dL_law_721 rfl ?_
  refine z_iload_n hX dL_law_722 rfl ?_
  refine z_iconst (v := nI 1) hX dL_law_723 rfl ?_
  refine z_iaddN hX dL_law_724 ?_
  refine z_sld hX hS dL_law_725 (by omega) (by omega) ?_
  refine z_aload_n hX dL_law_726 rfl ?_
  refine z_iload_n hX dL_law_727 rfl ?_
  refine z_iconst (v := nI 2) hX dL_law_728 rfl ?_
  refine z_iaddN hX dL_law_729 ?_
  refine z_sld hX hS dL_law_730 (by omega) (by omega) ?_
  refine z_callV hX dL_law_731 mv_9_90 is5 hM5 (by decide) rfl rfl (lw_sub5 a b f g a' b' c') (by decide +kernel) (Nat.le_of_ble_eq_true rfl) rfl rfl (Nat.le_of_ble_eq_true rfl) (fun r w1 hp5 _ => ?_)
  refine z_aload_n hX dL_law_734 rfl ?_
  refine z_aload_n hX dL_law_735 rfl ?_
  refine z_iload_n hX dL_law_736 rfl ?_
  refine z_iconst (v := nI 1) hX dL_law_737 rfl ?_
  refine z_iaddN hX dL_law_738 ?_
  refine z_sld hX hS dL_law_739 (by omega) (by omega) ?_
  refine z_aload_n hX dL_law_740 rfl ?_
  refine z_iload_n hX dL_law_741 rfl ?_
  refine z_iconst (v := nI 2) hX dL_law_742 rfl ?_
  refine z_iaddN hX dL_law_743 ?_
  refine z_sld hX hS dL_law_744 (by omega) (by omega) ?_
  refine z_callV hX dL_law_745 mv_9_93 is6 hM6 (by decide) rfl rfl (lw_sub6 a b f g a' b' c' w1) (by decide +kernel) (Nat.le_of_ble_eq_true rfl) rfl rfl (zpg_room _ r) (fun r2 w2 hp6 _ => ?_)
  obtain ⟨a1, b1, f1, g1, a2, b2, c2, v, rfl, rfl, hR1, rfl, rfl⟩ := hst r r2 w1 w2 hp5 hp6
  refine z_norm (ls' := [some (.ref 1003), some (.ref 0), some (.ref 59), some (.int (nI k))]) rfl rfl (lw_put a b f g a' b' c' a1 b1 f1 g1 a2 b2 c2) ?_
  refine z_lcmp hX dL_law_748 ?_
  exact z_lif_eq (tgt := 892) hX dL_law_749 (by decide) (fun _ => next a1 b1 f1 g1 a2 b2 c2 hR1) (fun c => absurd rfl c)
set_option maxHeartbeats 4000000 in
set_option maxRecDepth 100000 in
theorem lc_18 {X : ZX} (hX : ZOK X 9 cL_law 6) {L : Nat} {xs : Nat → Int32} (hS : ZSc X L xs) (hL : L ≤ 2560) {k N : Nat} (hk : k + 5 ≤ L) (hN : 5 * N = k) (a : Nat → Nat → Int32) (b : Nat → Nat → Int64) (f : Nat → Nat → Int32) (g : Nat → Nat → Int64) (a' : Nat → Nat → Int32) (b' : Nat → Nat → Int64) (c' : Nat → Int32) (hR : Rel N a b f g a' b' c') (next : ∀ (a1 : Nat → Nat → Int32) (b1 : Nat → Nat → Int64) (f1 : Nat → Nat → Int32) (g1 : Nat → Nat → Int64) (a2 : Nat → Nat → Int32) (b2 : Nat → Nat → Int64) (c2 : Nat → Int32), Rel (N + 1) a1 b1 f1 g1 a2 b2 c2 → ZG X 892 [some (.ref 1003), some (.ref 0), some (.ref 59), some (.int (nI k))] [] (LW a1 b1 f1 g1 a2 b2 c2)) : ZG X 754 [some (.ref 1003), some (.ref 0), some (.ref 59), some (.int (nI k))] [] (LW a b f g a' b' c') := by
  by_cases hz : xs (k + 2) = 0
  · obtain ⟨P5, P6, hM5, hM6, hst⟩ := k_watch hR (xs (k + 1)) (nI 0) (Or.inl rfl)
    refine z_aload_n hX dL_law_754 rfl ?_
    refine z_aload_n hX dL_law_755 rfl ?_
    refine z_iload_n hX dL_law_756 rfl ?_
    refine z_iconst (v := nI 1) hX dL_law_757 rfl ?_
    refine z_iaddN hX dL_law_758 ?_
    refine z_sld hX hS dL_law_759 (by omega) (by omega) ?_
    refine z_aload_n hX dL_law_760 rfl ?_
    refine z_iload_n hX dL_law_761 rfl ?_
    refine z_iconst (v := nI 2) hX dL_law_762 rfl ?_
    refine z_iaddN hX dL_law_763 ?_
    refine z_sld hX hS dL_law_764 (by omega) (by omega) ?_
    refine z_if_eq (tgt := 772) hX dL_law_765 (by decide) (fun _ => ?_) (fun c => absurd hz c)
    refine z_iconst (v := nI 0) hX dL_law_772 rfl ?_
    refine z_callV hX dL_law_773 mv_9_94 is5 hM5 (by decide) rfl rfl (lw_sub5 a b f g a' b' c') (by decide +kernel) (Nat.le_of_ble_eq_true rfl) rfl rfl (Nat.le_of_ble_eq_true rfl) (fun r w1 hp5 _ => ?_)
    refine z_aload_n hX dL_law_776 rfl ?_
    refine z_aload_n hX dL_law_777 rfl ?_
    refine z_iload_n hX dL_law_778 rfl ?_
    refine z_iconst (v := nI 1) hX dL_law_779 rfl ?_
    refine z_iaddN hX dL_law_780 ?_
    refine z_sld hX hS dL_law_781 (by omega) (by omega) ?_
    refine z_aload_n hX dL_law_782 rfl ?_
    refine z_iload_n hX dL_law_783 rfl ?_
    refine z_iconst (v := nI 2) hX dL_law_784 rfl ?_
    refine z_iaddN hX dL_law_785 ?_
    refine z_sld hX hS dL_law_786 (by omega) (by omega) ?_
    refine z_if_eq (tgt := 794) hX dL_law_787 (by decide) (fun _ => ?_) (fun c => absurd hz c)
    refine z_iconst (v := nI 0) hX dL_law_794 rfl ?_
    refine z_callV hX dL_law_795 mv_9_97 is6 hM6 (by decide) rfl rfl (lw_sub6 a b f g a' b' c' w1) (by decide +kernel) (Nat.le_of_ble_eq_true rfl) rfl rfl (zpg_room _ r) (fun r2 w2 hp6 _ => ?_)
    obtain ⟨a1, b1, f1, g1, a2, b2, c2, v, rfl, rfl, hR1, rfl, rfl⟩ := hst r r2 w1 w2 hp5 hp6
    refine z_norm (ls' := [some (.ref 1003), some (.ref 0), some (.ref 59), some (.int (nI k))]) rfl rfl (lw_put a b f g a' b' c' a1 b1 f1 g1 a2 b2 c2) ?_
    exact z_icmp_eq (tgt := 892) hX dL_law_798 (by decide) (fun _ => next a1 b1 f1 g1 a2 b2 c2 hR1) (fun c => absurd rfl c)
  · obtain ⟨P5, P6, hM5, hM6, hst⟩ := k_watch hR (xs (k + 1)) (nI 1) (Or.inr rfl)
    refine z_aload_n hX dL_law_754 rfl ?_
    refine z_aload_n hX dL_law_755 rfl ?_
    refine z_iload_n hX dL_law_756 rfl ?_
    refine z_iconst (v := nI 1) hX dL_law_757 rfl ?_
    refine z_iaddN hX dL_law_758 ?_
    refine z_sld hX hS dL_law_759 (by omega) (by omega) ?_
    refine z_aload_n hX dL_law_760 rfl ?_
    refine z_iload_n hX dL_law_761 rfl ?_
    refine z_iconst (v := nI 2) hX dL_law_762 rfl ?_
    refine z_iaddN hX dL_law_763 ?_
    refine z_sld hX hS dL_law_764 (by omega) (by omega) ?_
    refine z_if_eq (tgt := 772) hX dL_law_765 (by decide) (fun c => absurd c hz) (fun _ => ?_)
    refine z_iconst (v := nI 1) hX dL_law_768 rfl ?_
    refine z_goto (tgt := 773) hX dL_law_769 (by decide) ?_
    refine z_callV hX dL_law_773 mv_9_94 is5 hM5 (by decide) rfl rfl (lw_sub5 a b f g a' b' c') (by decide +kernel) (Nat.le_of_ble_eq_true rfl) rfl rfl (Nat.le_of_ble_eq_true rfl) (fun r w1 hp5 _ => ?_)
    refine z_aload_n hX dL_law_776 rfl ?_
    refine z_aload_n hX dL_law_777 rfl ?_
    refine z_iload_n hX dL_law_778 rfl ?_
    refine z_iconst (v := nI 1) hX dL_law_779 rfl ?_
    refine z_iaddN hX dL_law_780 ?_
    refine z_sld hX hS dL_law_781 (by omega) (by omega) ?_
    refine z_aload_n hX dL_law_782 rfl ?_
    refine z_iload_n hX dL_law_783 rfl ?_
    refine z_iconst (v := nI 2) hX dL_law_784 rfl ?_
    refine z_iaddN hX dL_law_785 ?_
    refine z_sld hX hS dL_law_786 (by omega) (by omega) ?_
    refine z_if_eq (tgt := 794) hX dL_law_787 (by decide) (fun c => absurd c hz) (fun _ => ?_)
    refine z_iconst (v := nI 1) hX dL_law_790 rfl ?_
    refine z_goto (tgt := 795) hX dL_law_791 (by decide) ?_
    refine z_callV hX dL_law_795 mv_9_97 is6 hM6 (by decide) rfl rfl (lw_sub6 a b f g a' b' c' w1) (by decide +kernel) (Nat.le_of_ble_eq_true rfl) rfl rfl (zpg_room _ r) (fun r2 w2 hp6 _ => ?_)
    obtain ⟨a1, b1, f1, g1, a2, b2, c2, v, rfl, rfl, hR1, rfl, rfl⟩ := hst r r2 w1 w2 hp5 hp6
    refine z_norm (ls' := [some (.ref 1003), some (.ref 0), some (.ref 59), some (.int (nI k))]) rfl rfl (lw_put a b f g a' b' c' a1 b1 f1 g1 a2 b2 c2) ?_
    exact z_icmp_eq (tgt := 892) hX dL_law_798 (by decide) (fun _ => next a1 b1 f1 g1 a2 b2 c2 hR1) (fun c => absurd rfl c)
set_option maxHeartbeats 4000000 in
set_option maxRecDepth 100000 in
theorem lc_19 {X : ZX} (hX : ZOK X 9 cL_law 6) {L : Nat} {xs : Nat → Int32} (hS : ZSc X L xs) (hL : L ≤ 2560) {k N : Nat} (hk : k + 5 ≤ L) (hN : 5 * N = k) (a : Nat → Nat → Int32) (b : Nat → Nat → Int64) (f : Nat → Nat → Int32) (g : Nat → Nat → Int64) (a' : Nat → Nat → Int32) (b' : Nat → Nat → Int64) (c' : Nat → Int32) (hR : Rel N a b f g a' b' c') (next : ∀ (a1 : Nat → Nat → Int32) (b1 : Nat → Nat → Int64) (f1 : Nat → Nat → Int32) (g1 : Nat → Nat → Int64) (a2 : Nat → Nat → Int32) (b2 : Nat → Nat → Int64) (c2 : Nat → Int32), Rel (N + 1) a1 b1 f1 g1 a2 b2 c2 → ZG X 892 [some (.ref 1003), some (.ref 0), some (.ref 59), some (.int (nI k))] [] (LW a1 b1 f1 g1 a2 b2 c2)) : ZG X 803 [some (.ref 1003), some (.ref 0), some (.ref 59), some (.int (nI k))] [] (LW a b f g a' b' c') := by
  obtain ⟨P5, P6, hM5, hM6, hst⟩ := k_law hR (xs (k + 1)) (xs (k + 2))
  refine z_aload_n hX dL_law_803 rfl ?_
  refine z_aload_n hX dL_law_804 rfl ?_
  refine z_iload_n hX dL_law_805 rfl ?_
  refine z_iconst (v := nI 1) hX dL_law_806 rfl ?_
  refine z_iaddN hX dL_law_807 ?_
  refine z_sld hX hS dL_law_808 (by omega) (by omega) ?_
  refine z_aload_n hX dL_law_809 rfl ?_
  refine z_iload_n hX dL_law_810 rfl ?_
  refine z_iconst (v := nI 2) hX dL_law_811 rfl ?_
  refine z_iaddN hX dL_law_812 ?_
  refine z_sld hX hS dL_law_813 (by omega) (by omega) ?_
  refine z_callV hX dL_law_814 mv_9_98 is5 hM5 (by decide) rfl rfl (lw_sub5 a b f g a' b' c') (by decide +kernel) (Nat.le_of_ble_eq_true rfl) rfl rfl (Nat.le_of_ble_eq_true rfl) (fun r w1 hp5 _ => ?_)
  refine z_aload_n hX dL_law_817 rfl ?_
  refine z_aload_n hX dL_law_818 rfl ?_
  refine z_iload_n hX dL_law_819 rfl ?_
  refine z_iconst (v := nI 1) hX dL_law_820 rfl ?_
  refine z_iaddN hX dL_law_821 ?_
  refine z_sld hX hS dL_law_822 (by omega) (by omega) ?_
  refine z_aload_n hX dL_law_823 rfl ?_
  refine z_iload_n hX dL_law_824 rfl ?_
  refine z_iconst (v := nI 2) hX dL_law_825 rfl ?_
  refine z_iaddN hX dL_law_826 ?_
  refine z_sld hX hS dL_law_827 (by omega) (by omega) ?_
  refine z_callV hX dL_law_828 mv_9_101 is6 hM6 (by decide) rfl rfl (lw_sub6 a b f g a' b' c' w1) (by decide +kernel) (Nat.le_of_ble_eq_true rfl) rfl rfl (zpg_room _ r) (fun r2 w2 hp6 _ => ?_)
  obtain ⟨a1, b1, f1, g1, a2, b2, c2, v, rfl, rfl, hR1, rfl, rfl⟩ := hst r r2 w1 w2 hp5 hp6
  refine z_norm (ls' := [some (.ref 1003), some (.ref 0), some (.ref 59), some (.int (nI k))]) rfl rfl (lw_put a b f g a' b' c' a1 b1 f1 g1 a2 b2 c2) ?_
  exact z_icmp_eq (tgt := 892) hX dL_law_831 (by decide) (fun _ => next a1 b1 f1 g1 a2 b2 c2 hR1) (fun c => absurd rfl c)
set_option maxHeartbeats 4000000 in
set_option maxRecDepth 100000 in
theorem lc_20 {X : ZX} (hX : ZOK X 9 cL_law 6) {L : Nat} {xs : Nat → Int32} (hS : ZSc X L xs) (hL : L ≤ 2560) {k N : Nat} (hk : k + 5 ≤ L) (hN : 5 * N = k) (a : Nat → Nat → Int32) (b : Nat → Nat → Int64) (f : Nat → Nat → Int32) (g : Nat → Nat → Int64) (a' : Nat → Nat → Int32) (b' : Nat → Nat → Int64) (c' : Nat → Int32) (hR : Rel N a b f g a' b' c') (next : ∀ (a1 : Nat → Nat → Int32) (b1 : Nat → Nat → Int64) (f1 : Nat → Nat → Int32) (g1 : Nat → Nat → Int64) (a2 : Nat → Nat → Int32) (b2 : Nat → Nat → Int64) (c2 : Nat → Int32), Rel (N + 1) a1 b1 f1 g1 a2 b2 c2 → ZG X 892 [some (.ref 1003), some (.ref 0), some (.ref 59), some (.int (nI k))] [] (LW a1 b1 f1 g1 a2 b2 c2)) : ZG X 836 [some (.ref 1003), some (.ref 0), some (.ref 59), some (.int (nI k))] [] (LW a b f g a' b' c') := by
  obtain ⟨P5, P6, hM5, hM6, hst⟩ := k_price hR (xs (k + 1)) (xs (k + 2))
  refine z_aload_n hX dL_law_836 rfl ?_
  refine z_aload_n hX dL_law_837 rfl ?_
  refine z_iload_n hX dL_law_838 rfl ?_
  refine z_iconst (v := nI 1) hX dL_law_839 rfl ?_
  refine z_iaddN hX dL_law_840 ?_
  refine z_sld hX hS dL_law_841 (by omega) (by omega) ?_
  refine z_aload_n hX dL_law_842 rfl ?_
  refine z_iload_n hX dL_law_843 rfl ?_
  refine z_iconst (v := nI 2) hX dL_law_844 rfl ?_
  refine z_iaddN hX dL_law_845 ?_
  refine z_sld hX hS dL_law_846 (by omega) (by omega) ?_
  refine z_callV hX dL_law_847 mv_9_102 is5 hM5 (by decide) rfl rfl (lw_sub5 a b f g a' b' c') (by decide +kernel) (Nat.le_of_ble_eq_true rfl) rfl rfl (Nat.le_of_ble_eq_true rfl) (fun r w1 hp5 _ => ?_)
  refine z_aload_n hX dL_law_850 rfl ?_
  refine z_aload_n hX dL_law_851 rfl ?_
  refine z_iload_n hX dL_law_852 rfl ?_
  refine z_iconst (v := nI 1) hX dL_law_853 rfl ?_
  refine z_iaddN hX dL_law_854 ?_
  refine z_sld hX hS dL_law_855 (by omega) (by omega) ?_
  refine z_aload_n hX dL_law_856 rfl ?_
  refine z_iload_n hX dL_law_857 rfl ?_
  refine z_iconst (v := nI 2) hX dL_law_858 rfl ?_
  refine z_iaddN hX dL_law_859 ?_
  refine z_sld hX hS dL_law_860 (by omega) (by omega) ?_
  refine z_callV hX dL_law_861 mv_9_105 is6 hM6 (by decide) rfl rfl (lw_sub6 a b f g a' b' c' w1) (by decide +kernel) (Nat.le_of_ble_eq_true rfl) rfl rfl (zpg_room _ r) (fun r2 w2 hp6 _ => ?_)
  obtain ⟨a1, b1, f1, g1, a2, b2, c2, v, rfl, rfl, hR1, rfl, rfl⟩ := hst r r2 w1 w2 hp5 hp6
  refine z_norm (ls' := [some (.ref 1003), some (.ref 0), some (.ref 59), some (.int (nI k))]) rfl rfl (lw_put a b f g a' b' c' a1 b1 f1 g1 a2 b2 c2) ?_
  exact z_icmp_eq (tgt := 892) hX dL_law_864 (by decide) (fun _ => next a1 b1 f1 g1 a2 b2 c2 hR1) (fun c => absurd rfl c)
set_option maxHeartbeats 4000000 in
set_option maxRecDepth 100000 in
theorem lc_21 {X : ZX} (hX : ZOK X 9 cL_law 6) {L : Nat} {xs : Nat → Int32} (hS : ZSc X L xs) (hL : L ≤ 2560) {k N : Nat} (hk : k + 5 ≤ L) (hN : 5 * N = k) (a : Nat → Nat → Int32) (b : Nat → Nat → Int64) (f : Nat → Nat → Int32) (g : Nat → Nat → Int64) (a' : Nat → Nat → Int32) (b' : Nat → Nat → Int64) (c' : Nat → Int32) (hR : Rel N a b f g a' b' c') (next : ∀ (a1 : Nat → Nat → Int32) (b1 : Nat → Nat → Int64) (f1 : Nat → Nat → Int32) (g1 : Nat → Nat → Int64) (a2 : Nat → Nat → Int32) (b2 : Nat → Nat → Int64) (c2 : Nat → Int32), Rel (N + 1) a1 b1 f1 g1 a2 b2 c2 → ZG X 892 [some (.ref 1003), some (.ref 0), some (.ref 59), some (.int (nI k))] [] (LW a1 b1 f1 g1 a2 b2 c2)) : ZG X 869 [some (.ref 1003), some (.ref 0), some (.ref 59), some (.int (nI k))] [] (LW a b f g a' b' c') := by
  obtain ⟨P5, P6, hM5, hM6, hst⟩ := k_cheapest hR (xs (k + 1))
  refine z_aload_n hX dL_law_869 rfl ?_
  refine z_aload_n hX dL_law_870 rfl ?_
  refine z_iload_n hX dL_law_871 rfl ?_
  refine z_iconst (v := nI 1) hX dL_law_872 rfl ?_
  refine z_iaddN hX dL_law_873 ?_
  refine z_sld hX hS dL_law_874 (by omega) (by omega) ?_
  refine z_callV hX dL_law_875 mv_9_106 is5 hM5 (by decide) rfl rfl (lw_sub5 a b f g a' b' c') (by decide +kernel) (Nat.le_of_ble_eq_true rfl) rfl rfl (Nat.le_of_ble_eq_true rfl) (fun r w1 hp5 _ => ?_)
  refine z_aload_n hX dL_law_878 rfl ?_
  refine z_aload_n hX dL_law_879 rfl ?_
  refine z_iload_n hX dL_law_880 rfl ?_
  refine z_iconst (v := nI 1) hX dL_law_881 rfl ?_
  refine z_iaddN hX dL_law_882 ?_
  refine z_sld hX hS dL_law_883 (by omega) (by omega) ?_
  refine z_callV hX dL_law_884 mv_9_109 is6 hM6 (by decide) rfl rfl (lw_sub6 a b f g a' b' c' w1) (by decide +kernel) (Nat.le_of_ble_eq_true rfl) rfl rfl (zpg_room _ r) (fun r2 w2 hp6 _ => ?_)
  obtain ⟨a1, b1, f1, g1, a2, b2, c2, v, rfl, rfl, hR1, rfl, rfl⟩ := hst r r2 w1 w2 hp5 hp6
  refine z_norm (ls' := [some (.ref 1003), some (.ref 0), some (.ref 59), some (.int (nI k))]) rfl rfl (lw_put a b f g a' b' c' a1 b1 f1 g1 a2 b2 c2) ?_
  exact z_icmp_eq (tgt := 892) hX dL_law_887 (by decide) (fun _ => next a1 b1 f1 g1 a2 b2 c2 hR1) (fun c => absurd rfl c)
