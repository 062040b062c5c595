/-! ===== the reference: heights ===== -/
def WH (a : Nat → Nat → Int32) (b : Nat → Nat → Int64) (c : Nat → Int32) (m h : Nat → Int64) : ZW := [.inr (6, [.ref 1, .ref 2, .ref 3, .ref 4, .ref 5, .ref 6, .ref 7, .ref 8, .ref 9, .ref 10, .int (c 0), .ref 11, .ref 12, .ref 13, .ref 14, .ref 15, .ref 16, .int (c 1), .int (c 2), .ref 17, .ref 18, .ref 19]), .inl (0, 24, .inl (a 1)), .inl (1, 90, .inr m), .inl (1, 10, .inr h), .inl (0, 4, .inl (a 4)), .inl (0, 4, .inl (a 5)), .inl (0, 96, .inl (a 6)), .inl (0, 3, .inl (a 7)), .inl (0, 72, .inl (a 8)), .inl (1, 27, .inr (b 9)), .inl (1, 12, .inr (b 10)), .inl (1, 9, .inr (b 11)), .inl (0, 4, .inl (a 12)), .inl (2, 4, .inl (a 13)), .inl (2, 4, .inl (a 14)), .inl (0, 4, .inl (a 15)), .inl (1, 1200, .inr (b 16)), .inl (0, 3, .inl (a 17)), .inl (0, 3, .inl (a 18)), .inl (0, 4, .inl (a 19))]
def hInv (g : Nat → Int) (k i j : Nat) (m : Nat → Int64) : Prop := ∀ r, r < 9 → ∀ q, q < 10 → m (10 * r + q) = if r < i ∨ (r = i ∧ q < j ∧ i ≠ k) then zV g (k + 1) r q else zV g k r q
theorem hInv_row {g : Nat → Int} {k i j : Nat} {m : Nat → Int64} (h : hInv g k i j m) (hk : k < 9) {q : Nat} (hq : q < 10) : m (10 * k + q) = zV g k k q := by
  rw [h k hk q hq]
  split
  · exact zV_row g hk hq
  · rfl
theorem hInv_at {g : Nat → Int} {k i j : Nat} {m : Nat → Int64} (h : hInv g k i j m) (hi : i < 9) {q : Nat} (hq : q < 10) (hj : j ≤ q) : m (10 * i + q) = zV g k i q := by
  rw [h i hi q hq, if_neg (by omega)]
theorem hInv_next {g : Nat → Int} {k i j : Nat} {m : Nat → Int64} (h : hInv g k i j m) (hk : k < 9) (he : 10 ≤ j ∨ i = k) : hInv g k (i + 1) 0 m := by
  intro r hr q hq
  rw [h r hr q hq]
  by_cases h1 : r < i
  · rw [if_pos (Or.inl h1), if_pos (Or.inl (by omega))]
  · by_cases h2 : r = i
    · subst h2
      rw [if_pos (c := r < r + 1 ∨ _) (Or.inl (by omega))]
      by_cases h3 : r = k
      · subst h3
        rw [if_neg (by omega)]
        exact (zV_row g hk hq).symm
      · rw [if_pos (Or.inr ⟨rfl, by omega, h3⟩)]
    · rw [if_neg (by omega), if_neg (by omega)]
theorem hInv_put {g : Nat → Int} {k i j : Nat} {m : Nat → Int64} {x : Int64} (h : hInv g k i j m) (hi : i < 9) (hj : j < 10) (hne : i ≠ k) (hx : x = zV g (k + 1) i j) : hInv g k i (j + 1) (vp_updL m (10 * i + j) x) := by
  intro r hr q hq
  by_cases h1 : 10 * r + q = 10 * i + j
  · have e1 : r = i := by omega
    have e2 : q = j := by omega
    subst e1
    subst e2
    rw [pk_uLs, if_pos (Or.inr ⟨rfl, by omega, hne⟩)]
    exact hx
  · rw [pk_uLn h1, h r hr q hq]
    by_cases h2 : r < i ∨ (r = i ∧ q < j ∧ i ≠ k)
    · rw [if_pos h2, if_pos (by omega)]
    · rw [if_neg h2, if_neg (by omega)]
theorem hInv_step {g : Nat → Int} {k : Nat} {m : Nat → Int64} (h : hInv g k 9 0 m) : hInv g (k + 1) 0 0 m := by
  intro r hr q hq
  rw [h r hr q hq, if_pos (Or.inl hr), if_neg (by omega)]
set_option maxHeartbeats 4000000 in
set_option maxRecDepth 100000 in
theorem lp_fh_261 {X : ZX} {post : Option Value → ZW → Prop} (hX : ZOK X 6 cX6_findHeights 4) (hR : ZRet X none post) (a : Nat → Nat → Int32) (b : Nat → Nat → Int64) (c : Nat → Int32) (m h : Nat → Int64) (hpost : ∀ h1, (∀ q, h1 q = if q < 9 then m (10 * q + 9) else h q) → post none (WH a b c m h1)) : ∀ (n k : Nat) (h1 : Nat → Int64), k ≤ 9 → 9 < k + n → (∀ q, h1 q = if q < k then m (10 * q + 9) else h q) → ZG X 261 [some (.ref 0), none, none, some (.int (nI k)), none, none, none, none, none, none] [] (WH a b c m h1) := by
  intro n
  induction n with
  | zero => intro k h1 z1 z2; omega
  | succ n ih =>
    intro k h1 hk1 hk2 hh
    refine z_iload_n hX dX6_findHeights_261 rfl ?_
    refine z_bipush (v := nI 9) hX dX6_findHeights_262 rfl ?_
    first | with_reducible refine z_icmp_geN (tgt := 291) hX dX6_findHeights_264 (by decide) (by omega) (by omega) (fun c_264 => ?_) (fun c_264 => ?_) | refine z_icmp_ge (tgt := 291) hX dX6_findHeights_264 (by decide) (fun c_264 => ?_) (fun c_264 => ?_)
    · -- 264 t
      have zk : k = 9 := by omega
      subst zk
      refine z_vret hX hR dX6_findHeights_291 ?_
      exact hpost h1 hh
    · -- 264 f
      refine z_aload_n hX dX6_findHeights_267 rfl ?_
      refine z_get hX dX6_findHeights_268 f_6_17 rfl rfl ?_
      refine z_iload_n hX dX6_findHeights_271 rfl ?_
      refine z_aload_n hX dX6_findHeights_272 rfl ?_
      refine z_get hX dX6_findHeights_273 f_6_13 rfl rfl ?_
      refine z_bipush (v := nI 10) hX dX6_findHeights_276 rfl ?_
      refine z_iload_n hX dX6_findHeights_278 rfl ?_
      first | with_reducible refine z_imulN hX dX6_findHeights_279 ?_ | refine z_imul hX dX6_findHeights_279 ?_
      refine z_bipush (v := nI 9) hX dX6_findHeights_280 rfl ?_
      first | with_reducible refine z_iaddN hX dX6_findHeights_282 ?_ | refine z_iadd hX dX6_findHeights_282 ?_
      refine z_lald hX dX6_findHeights_283 rfl (by omega) (by decide) ?_
      refine z_last (w' := [_, _, _, _, _, _, _, _, _, _, _, _, _, _, _, _, _, _, _, _]) hX dX6_findHeights_284 rfl (by omega) (by decide) rfl ?_
      first | refine z_iincN (b := 1) (ls' := [_, _, _, _, _, _, _, _, _, _]) hX dX6_findHeights_285 rfl rfl rfl ?_ | refine z_iinc (ls' := [_, _, _, _, _, _, _, _, _, _]) hX dX6_findHeights_285 rfl rfl ?_
      refine z_goto (tgt := 261) hX dX6_findHeights_288 (by decide) ?_
      refine ih (k + 1) _ (by omega) (by omega) (fun q => ?_)
      by_cases e : q = k
      · subst e
        rw [pk_uLs, if_pos (by omega)]
      · rw [pk_uLn e, hh q]
        by_cases e2 : q < k
        · rw [if_pos e2, if_pos (by omega)]
        · rw [if_neg e2, if_neg (by omega)]
set_option maxHeartbeats 4000000 in
set_option maxRecDepth 100000 in
theorem lp_fh_178 {X : ZX} {post : Option Value → ZW → Prop} (hX : ZOK X 6 cX6_findHeights 4) (hR : ZRet X none post) (a : Nat → Nat → Int32) (b : Nat → Nat → Int64) (c : Nat → Int32) (g : Nat → Int) (hg : ∀ t, t < 9 → -2400 ≤ g t ∧ g t ≤ 2400) (h : Nat → Int64) (k i : Nat) (hk : k < 9) (hi : i < 9) (K : ∀ m1, hInv g k (i + 1) 0 m1 → ZG X 244 [some (.ref 0), some (.long (Int64.ofInt (zBD k))), none, some (.int (nI k)), some (.long (zV g k k k)), none, some (.int (nI i)), none, none, none] [] (WH a b c m1 h)) : ∀ (n j : Nat) (m : Nat → Int64), j ≤ 10 → 10 < j + n → hInv g k i j m → ZG X 178 [some (.ref 0), some (.long (Int64.ofInt (zBD k))), none, some (.int (nI k)), some (.long (zV g k k k)), none, some (.int (nI i)), some (.long (zV g k i k)), none, some (.int (nI j))] [] (WH a b c m h) := by
  intro n
  induction n with
  | zero => intro j m z1 z2; omega
  | succ n ih =>
    intro j m hj1 hj2 hm
    refine z_iload hX dX6_findHeights_178 rfl ?_
    refine z_bipush (v := nI 10) hX dX6_findHeights_180 rfl ?_
    first | with_reducible refine z_icmp_geN (tgt := 244) hX dX6_findHeights_182 (by decide) (by omega) (by omega) (fun c_182 => ?_) (fun c_182 => ?_) | refine z_icmp_ge (tgt := 244) hX dX6_findHeights_182 (by decide) (fun c_182 => ?_) (fun c_182 => ?_)
    · -- 182 t
      refine z_forget (ls' := [some (.ref 0), some (.long (Int64.ofInt (zBD k))), none, some (.int (nI k)), some (.long (zV g k k k)), none, some (.int (nI i)), none, none, none]) ?_ (K _ (hInv_next hm hk (by omega)))
      exact ⟨rfl, rfl, rfl, rfl, rfl, trivial⟩
    · -- 182 f
      refine z_iload hX dX6_findHeights_185 rfl ?_
      refine z_iload_n hX dX6_findHeights_187 rfl ?_
      first | with_reducible refine z_icmp_eqN (tgt := 244) hX dX6_findHeights_188 (by decide) (by omega) (by omega) (fun c_188 => ?_) (fun c_188 => ?_) | refine z_icmp_eq (tgt := 244) hX dX6_findHeights_188 (by decide) (fun c_188 => ?_) (fun c_188 => ?_)
      · -- 188 t
        refine z_forget (ls' := [some (.ref 0), some (.long (Int64.ofInt (zBD k))), none, some (.int (nI k)), some (.long (zV g k k k)), none, some (.int (nI i)), none, none, none]) ?_ (K _ (hInv_next hm hk (by omega)))
        exact ⟨rfl, rfl, rfl, rfl, rfl, trivial⟩
      · -- 188 f
        refine z_aload_n hX dX6_findHeights_191 rfl ?_
        refine z_get hX dX6_findHeights_192 f_6_13 rfl rfl ?_
        refine z_bipush (v := nI 10) hX dX6_findHeights_195 rfl ?_
        refine z_iload hX dX6_findHeights_197 rfl ?_
        first | with_reducible refine z_imulN hX dX6_findHeights_199 ?_ | refine z_imul hX dX6_findHeights_199 ?_
        refine z_iload hX dX6_findHeights_200 rfl ?_
        first | with_reducible refine z_iaddN hX dX6_findHeights_202 ?_ | refine z_iadd hX dX6_findHeights_202 ?_
        refine z_lload hX dX6_findHeights_203 rfl ?_
        refine z_aload_n hX dX6_findHeights_205 rfl ?_
        refine z_get hX dX6_findHeights_206 f_6_13 rfl rfl ?_
        refine z_bipush (v := nI 10) hX dX6_findHeights_209 rfl ?_
        refine z_iload hX dX6_findHeights_211 rfl ?_
        first | with_reducible refine z_imulN hX dX6_findHeights_213 ?_ | refine z_imul hX dX6_findHeights_213 ?_
        refine z_iload hX dX6_findHeights_214 rfl ?_
        first | with_reducible refine z_iaddN hX dX6_findHeights_216 ?_ | refine z_iadd hX dX6_findHeights_216 ?_
        refine z_lald hX dX6_findHeights_217 rfl (by omega) (by decide) ?_
        refine z_lmul hX dX6_findHeights_218 ?_
        refine z_lload hX dX6_findHeights_219 rfl ?_
        refine z_aload_n hX dX6_findHeights_221 rfl ?_
        refine z_get hX dX6_findHeights_222 f_6_13 rfl rfl ?_
        refine z_bipush (v := nI 10) hX dX6_findHeights_225 rfl ?_
        refine z_iload_n hX dX6_findHeights_227 rfl ?_
        first | with_reducible refine z_imulN hX dX6_findHeights_228 ?_ | refine z_imul hX dX6_findHeights_228 ?_
        refine z_iload hX dX6_findHeights_229 rfl ?_
        first | with_reducible refine z_iaddN hX dX6_findHeights_231 ?_ | refine z_iadd hX dX6_findHeights_231 ?_
        refine z_lald hX dX6_findHeights_232 rfl (by omega) (by decide) ?_
        refine z_lmul hX dX6_findHeights_233 ?_
        refine z_lsub hX dX6_findHeights_234 ?_
        refine z_lload_n hX dX6_findHeights_235 rfl ?_
        refine z_ldiv hX dX6_findHeights_236 (zBD_ne (by omega)) ?_
        refine z_last (w' := [_, _, _, _, _, _, _, _, _, _, _, _, _, _, _, _, _, _, _, _]) hX dX6_findHeights_237 rfl (by omega) (by decide) rfl ?_
        first | refine z_iincN (b := 1) (ls' := [_, _, _, _, _, _, _, _, _, _]) hX dX6_findHeights_238 rfl rfl rfl ?_ | refine z_iinc (ls' := [_, _, _, _, _, _, _, _, _, _]) hX dX6_findHeights_238 rfl rfl ?_
        refine z_goto (tgt := 178) hX dX6_findHeights_241 (by decide) ?_
        refine ih (j + 1) _ (by omega) (by omega) (hInv_put hm hi (by omega) c_188 ?_)
        rw [hInv_at hm hi (by omega) (Nat.le_refl j), hInv_row hm hk (by omega)]
        exact zV_step hg hk hi c_188 (by omega)
set_option maxHeartbeats 4000000 in
set_option maxRecDepth 100000 in
theorem lp_fh_154 {X : ZX} {post : Option Value → ZW → Prop} (hX : ZOK X 6 cX6_findHeights 4) (hR : ZRet X none post) (a : Nat → Nat → Int32) (b : Nat → Nat → Int64) (c : Nat → Int32) (g : Nat → Int) (hg : ∀ t, t < 9 → -2400 ≤ g t ∧ g t ≤ 2400) (h : Nat → Int64) (k : Nat) (hk : k < 9) (K : ∀ m1, hInv g k 9 0 m1 → ZG X 250 [some (.ref 0), some (.long (Int64.ofInt (zBD k))), none, some (.int (nI k)), some (.long (zV g k k k)), none, none, none, none, none] [] (WH a b c m1 h)) : ∀ (n i : Nat) (m : Nat → Int64), i ≤ 9 → 9 < i + n → hInv g k i 0 m → ZG X 154 [some (.ref 0), some (.long (Int64.ofInt (zBD k))), none, some (.int (nI k)), some (.long (zV g k k k)), none, some (.int (nI i)), none, none, none] [] (WH a b c m h) := by
  intro n
  induction n with
  | zero => intro i m z1 z2; omega
  | succ n ih =>
    intro i m hi1 hi2 hm
    refine z_iload hX dX6_findHeights_154 rfl ?_
    refine z_bipush (v := nI 9) hX dX6_findHeights_156 rfl ?_
    first | with_reducible refine z_icmp_geN (tgt := 250) hX dX6_findHeights_158 (by decide) (by omega) (by omega) (fun c_158 => ?_) (fun c_158 => ?_) | refine z_icmp_ge (tgt := 250) hX dX6_findHeights_158 (by decide) (fun c_158 => ?_) (fun c_158 => ?_)
    · -- 158 t
      have zi : i = 9 := by omega
      subst zi
      refine z_forget (ls' := [some (.ref 0), some (.long (Int64.ofInt (zBD k))), none, some (.int (nI k)), some (.long (zV g k k k)), none, none, none, none, none]) ?_ (K _ hm)
      exact ⟨rfl, rfl, rfl, rfl, trivial⟩
    · -- 158 f
      refine z_aload_n hX dX6_findHeights_161 rfl ?_
      refine z_get hX dX6_findHeights_162 f_6_13 rfl rfl ?_
      refine z_bipush (v := nI 10) hX dX6_findHeights_165 rfl ?_
      refine z_iload hX dX6_findHeights_167 rfl ?_
      first | with_reducible refine z_imulN hX dX6_findHeights_169 ?_ | refine z_imul hX dX6_findHeights_169 ?_
      refine z_iload_n hX dX6_findHeights_170 rfl ?_
      first | with_reducible refine z_iaddN hX dX6_findHeights_171 ?_ | refine z_iadd hX dX6_findHeights_171 ?_
      refine z_lald hX dX6_findHeights_172 rfl (by omega) (by decide) ?_
      refine z_lstore (ls' := [_, _, _, _, _, _, _, _, _, _]) hX dX6_findHeights_173 (Nat.le_of_ble_eq_true rfl) rfl ?_
      refine z_iconst (v := nI 0) hX dX6_findHeights_175 rfl ?_
      refine z_istore (ls' := [_, _, _, _, _, _, _, _, _, _]) hX dX6_findHeights_176 (Nat.le_of_ble_eq_true rfl) rfl ?_
      have e : m (10 * i + k) = zV g k i k := hInv_at hm (by omega) (by omega) (Nat.zero_le k)
      rw [e]
      refine lp_fh_178 hX hR a b c g hg h k i hk (by omega) (fun m1 h1 => ?_) 11 0 m (by omega) (by omega) hm
      first | refine z_iincN (b := 1) (ls' := [_, _, _, _, _, _, _, _, _, _]) hX dX6_findHeights_244 rfl rfl rfl ?_ | refine z_iinc (ls' := [_, _, _, _, _, _, _, _, _, _]) hX dX6_findHeights_244 rfl rfl ?_
      refine z_goto (tgt := 154) hX dX6_findHeights_247 (by decide) ?_
      exact ih (i + 1) m1 (by omega) (by omega) h1
set_option maxHeartbeats 4000000 in
set_option maxRecDepth 100000 in
theorem lp_fh_134 {X : ZX} {post : Option Value → ZW → Prop} (hX : ZOK X 6 cX6_findHeights 4) (hR : ZRet X none post) (a : Nat → Nat → Int32) (b : Nat → Nat → Int64) (c : Nat → Int32) (g : Nat → Int) (hg : ∀ t, t < 9 → -2400 ≤ g t ∧ g t ≤ 2400) (h : Nat → Int64) (hpost : ∀ m h1, (∀ q, h1 q = if q < 9 then zV g 9 q 9 else h q) → post none (WH a b c m h1)) : ∀ (n k : Nat) (m : Nat → Int64), k ≤ 9 → 9 < k + n → hInv g k 0 0 m → ZG X 134 [some (.ref 0), some (.long (Int64.ofInt (zBD k))), none, some (.int (nI k)), none, none, none, none, none, none] [] (WH a b c m h) := by
  intro n
  induction n with
  | zero => intro k m z1 z2; omega
  | succ n ih =>
    intro k m hk1 hk2 hm
    refine z_iload_n hX dX6_findHeights_134 rfl ?_
    refine z_bipush (v := nI 9) hX dX6_findHeights_135 rfl ?_
    first | with_reducible refine z_icmp_geN (tgt := 259) hX dX6_findHeights_137 (by decide) (by omega) (by omega) (fun c_137 => ?_) (fun c_137 => ?_) | refine z_icmp_ge (tgt := 259) hX dX6_findHeights_137 (by decide) (fun c_137 => ?_) (fun c_137 => ?_)
    · -- 137 t
      refine z_iconst (v := nI 0) hX dX6_findHeights_259 rfl ?_
      refine z_istore_n (ls' := [_, _, _, _, _, _, _, _, _, _]) hX dX6_findHeights_260 (Nat.le_of_ble_eq_true rfl) rfl ?_
      have zk : k = 9 := by omega
      subst zk
      refine z_forget (ls' := [some (.ref 0), none, none, some (.int (nI 0)), none, none, none, none, none, none]) ⟨rfl, rfl, trivial⟩ ?_
      refine lp_fh_261 hX hR a b c m h (fun h1 e1 => hpost m h1 (fun q => ?_)) 10 0 h (by omega) (by omega) (fun q => by rw [if_neg (by omega)])
      rw [e1 q]
      by_cases e : q < 9
      · rw [if_pos e, if_pos e, hm q e 9 (by omega), if_neg (by omega)]
      · rw [if_neg e, if_neg e]
    · -- 137 f
      refine z_aload_n hX dX6_findHeights_140 rfl ?_
      refine z_get hX dX6_findHeights_141 f_6_13 rfl rfl ?_
      refine z_bipush (v := nI 11) hX dX6_findHeights_144 rfl ?_
      refine z_iload_n hX dX6_findHeights_146 rfl ?_
      first | with_reducible refine z_imulN hX dX6_findHeights_147 ?_ | refine z_imul hX dX6_findHeights_147 ?_
      refine z_lald hX dX6_findHeights_148 rfl (by omega) (by decide) ?_
      refine z_lstore (ls' := [_, _, _, _, _, _, _, _, _, _]) hX dX6_findHeights_149 (Nat.le_of_ble_eq_true rfl) rfl ?_
      refine z_iconst (v := nI 0) hX dX6_findHeights_151 rfl ?_
      refine z_istore (ls' := [_, _, _, _, _, _, _, _, _, _]) hX dX6_findHeights_152 (Nat.le_of_ble_eq_true rfl) rfl ?_
      have e : m (11 * k) = zV g k k k := by
        have := hInv_row hm (by omega) (q := k) (by omega)
        rw [show 11 * k = 10 * k + k by omega]
        exact this
      rw [e]
      refine lp_fh_154 hX hR a b c g hg h k (by omega) (fun m1 h1 => ?_) 10 0 m (by omega) (by omega) hm
      refine z_lload hX dX6_findHeights_250 rfl ?_
      refine z_lstore_n (ls' := [_, _, _, _, _, _, _, _, _, _]) hX dX6_findHeights_252 (Nat.le_of_ble_eq_true rfl) rfl ?_
      first | refine z_iincN (b := 1) (ls' := [_, _, _, _, _, _, _, _, _, _]) hX dX6_findHeights_253 rfl rfl rfl ?_ | refine z_iinc (ls' := [_, _, _, _, _, _, _, _, _, _]) hX dX6_findHeights_253 rfl rfl ?_
      refine z_goto (tgt := 134) hX dX6_findHeights_256 (by decide) ?_
      rw [zV_piv g (by omega)]
      refine z_forget (ls' := [some (.ref 0), some (.long (Int64.ofInt (zBD (k + 1)))), none, some (.int (nI (k + 1))), none, none, none, none, none, none]) ⟨rfl, rfl, rfl, trivial⟩ ?_
      exact ih (k + 1) m1 (by omega) (by omega) (hInv_step h1)
def adjB (n r q : Nat) : Bool := (List.range n).any (fun v => (decide (zFROM.getD v 0 < 9) && decide (zTO.getD v 0 < 9)) && ((zFROM.getD v 0 == r && zTO.getD v 0 == q) || (zTO.getD v 0 == r && zFROM.getD v 0 == q)))
theorem adjB_s (n r q : Nat) : adjB (n + 1) r q = (adjB n r q || ((decide (zFROM.getD n 0 < 9) && decide (zTO.getD n 0 < 9)) && ((zFROM.getD n 0 == r && zTO.getD n 0 == q) || (zTO.getD n 0 == r && zFROM.getD n 0 == q)))) := by
  unfold adjB
  rw [List.range_succ, List.any_append]
  simp only [List.any_cons, List.any_nil, Bool.or_false]
def gG (wn : Nat → Int32) (t : Nat) : Int := (-(giveF wn t 24)).toInt
/-- the matrix behind the second loop's turn n -/
def ph2 (wn : Nat → Int32) (n r q : Nat) : Int64 := if r < n then (if q = r then 4 else if q = 9 then (-(giveF wn r 24)).toInt64 else 0) else 0
def ph3 (wn : Nat → Int32) (n r q : Nat) : Int64 := if adjB n r q = true then -1 else ph2 wn 9 r q
theorem adj_ok : ∀ r, r < 9 → ∀ q, q < 9 → (if adjB 24 r q = true then (-1 : Int64) else if q = r then 4 else 0) = Int64.ofInt (zBT 0 r q) := by decide +kernel
theorem adj_9 : ∀ r, r < 9 → adjB 24 r 9 = false := by decide +kernel
theorem zVI_0 (g : Nat → Int) {r : Nat} (hr : r < 9) : zVI g 0 r 9 = g r := by
  have key : ∀ r, r < 9 → ∀ t, t < 9 → zBT 0 r (9 + t) = if t = r then 1 else 0 := by decide +kernel
  show zS9 (fun t => zBT 0 r (9 + t) * g t) = g r
  rw [zS9_congr (h := fun t => (if t = r then 1 else 0) * g t) (fun t ht => by rw [key r hr t ht])]
  unfold zS9
  rcases (show r = 0 ∨ r = 1 ∨ r = 2 ∨ r = 3 ∨ r = 4 ∨ r = 5 ∨ r = 6 ∨ r = 7 ∨ r = 8 by omega) with e | e | e | e | e | e | e | e | e <;> subst e <;> simp
theorem ph3_no {wn : Nat → Int32} {n : Nat} (h : ¬ (zFROM.getD n 0 < 9 ∧ zTO.getD n 0 < 9)) (r q : Nat) : ph3 wn (n + 1) r q = ph3 wn n r q := by
  unfold ph3
  rw [adjB_s]
  have e : (decide (zFROM.getD n 0 < 9) && decide (zTO.getD n 0 < 9)) = false := by
    rw [← Bool.decide_and]
    exact decide_eq_false h
  rw [e, Bool.false_and, Bool.or_false]
theorem ph3_put {wn : Nat → Int32} {n : Nat} {m : Nat → Int64} (h1 : zFROM.getD n 0 < 9) (h2 : zTO.getD n 0 < 9) (hm : ∀ r, r < 9 → ∀ q, q < 10 → m (10 * r + q) = ph3 wn n r q) : ∀ r, r < 9 → ∀ q, q < 10 → vp_updL (vp_updL m (10 * zFROM.getD n 0 + zTO.getD n 0) (-1)) (10 * zTO.getD n 0 + zFROM.getD n 0) (-1) (10 * r + q) = ph3 wn (n + 1) r q := by
  intro r hr q hq
  generalize hF : zFROM.getD n 0 = F at *
  generalize hT : zTO.getD n 0 = T at *
  have e : adjB (n + 1) r q = (adjB n r q || ((F == r && T == q) || (T == r && F == q))) := by
    rw [adjB_s, hF, hT, decide_eq_true h1, decide_eq_true h2]
    rfl
  by_cases c1 : 10 * r + q = 10 * T + F
  · have z1 : T = r := by omega
    have z2 : F = q := by omega
    rw [c1, pk_uLs]
    unfold ph3
    rw [e, if_pos (by simp [z1, z2])]
  · rw [pk_uLn c1]
    by_cases c2 : 10 * r + q = 10 * F + T
    · have z1 : F = r := by omega
      have z2 : T = q := by omega
      rw [c2, pk_uLs]
      unfold ph3
      rw [e, if_pos (by simp [z1, z2])]
    · rw [pk_uLn c2, hm r hr q hq]
      unfold ph3
      have z : ((F == r && T == q) || (T == r && F == q)) = false := by
        rw [Bool.or_eq_false_iff, Bool.and_eq_false_iff, Bool.and_eq_false_iff, beq_eq_false_iff_ne, beq_eq_false_iff_ne, beq_eq_false_iff_ne, beq_eq_false_iff_ne]
        omega
      rw [e, z, Bool.or_false]
theorem ph2_put {wn : Nat → Int32} {k : Nat} {m : Nat → Int64} (hk : k < 9) (hm : ∀ r, r < 9 → ∀ q, q < 10 → m (10 * r + q) = ph2 wn k r q) : ∀ r, r < 9 → ∀ q, q < 10 → vp_updL (vp_updL m (11 * k) 4) (10 * k + 9) (-(giveF wn k 24)).toInt64 (10 * r + q) = ph2 wn (k + 1) r q := by
  intro r hr q hq
  by_cases c1 : 10 * r + q = 10 * k + 9
  · have z1 : r = k := by omega
    have z2 : q = 9 := by omega
    rw [c1, pk_uLs]
    unfold ph2
    rw [if_pos (by omega), if_neg (by omega), if_pos z2, z1]
  · rw [pk_uLn c1]
    by_cases c2 : 10 * r + q = 11 * k
    · have z1 : r = k := by omega
      have z2 : q = r := by omega
      rw [c2, pk_uLs]
      unfold ph2
      rw [if_pos (by omega), if_pos z2]
    · rw [pk_uLn c2, hm r hr q hq]
      unfold ph2
      by_cases c3 : r < k
      · rw [if_pos c3, if_pos (show r < k + 1 by omega)]
      · rw [if_neg c3]
        by_cases c4 : r = k
        · rw [if_pos (show r < k + 1 by omega), if_neg (show ¬ q = r by omega), if_neg (show ¬ q = 9 by omega)]
        · rw [if_neg (show ¬ r < k + 1 by omega)]
theorem giveT_le {wn : Nat → Int32} (hw : ∀ k, k < 24 → zB (wn k) (-100) 100) (box : Nat) {k : Nat} (hk : k < 24) : -100 ≤ (giveT wn box k).toInt ∧ (giveT wn box k).toInt ≤ 100 := by
  have h := hw k hk
  unfold zB at h
  unfold giveT
  split
  · exact h
  · split
    · rw [Int32.toInt_neg, Int.bmod_eq_of_le (by omega) (by omega)]
      omega
    · exact ⟨by decide +kernel, by decide +kernel⟩
theorem giveF_le {wn : Nat → Int32} (hw : ∀ k, k < 24 → zB (wn k) (-100) 100) (box : Nat) : ∀ n : Nat, n ≤ 24 → -(100 * (n : Int)) ≤ (giveF wn box n).toInt ∧ (giveF wn box n).toInt ≤ 100 * (n : Int)
  | 0, _ => by
    show -(100 * ((0 : Nat) : Int)) ≤ (nI 0).toInt ∧ (nI 0).toInt ≤ 100 * ((0 : Nat) : Int)
    decide +kernel
  | n + 1, h => by
    have ih := giveF_le hw box n (by omega)
    have ht := giveT_le hw box (k := n) (by omega)
    rw [giveF_s, Int32.toInt_add, Int.bmod_eq_of_le (by omega) (by omega)]
    omega
theorem gG_le {wn : Nat → Int32} (hw : ∀ k, k < 24 → zB (wn k) (-100) 100) (t : Nat) : -2400 ≤ gG wn t ∧ gG wn t ≤ 2400 := by
  have h := giveF_le hw t 24 (by omega)
  unfold gG
  rw [Int32.toInt_neg, Int.bmod_eq_of_le (by omega) (by omega)]
  omega
theorem ph3_end (wn : Nat → Int32) : ∀ r, r < 9 → ∀ q, q < 10 → ph3 wn 24 r q = zV (gG wn) 0 r q := by
  intro r hr q hq
  unfold ph3 zV
  by_cases hq9 : q < 9
  · have h := adj_ok r hr q hq9
    have e : zVI (gG wn) 0 r q = zBT 0 r q := if_pos hq9
    rw [e, ← h]
    unfold ph2
    rw [if_pos hr]
    by_cases c1 : adjB 24 r q = true
    · rw [if_pos c1, if_pos c1]
    · rw [if_neg c1, if_neg c1]
      by_cases c2 : q = r
      · rw [if_pos c2, if_pos c2]
      · rw [if_neg c2, if_neg c2, if_neg (by omega)]
  · have e : q = 9 := by omega
    subst e
    rw [zVI_0 (gG wn) hr, adj_9 r hr, if_neg (by decide)]
    unfold ph2
    rw [if_pos hr, if_neg (by omega), if_pos rfl]
    apply zL_eq
    rw [Int32.toInt_toInt64]
    rfl
set_option maxHeartbeats 4000000 in
set_option maxRecDepth 100000 in
theorem lp_fh_68 {X : ZX} {post : Option Value → ZW → Prop} (hX : ZOK X 6 cX6_findHeights 4) (hR : ZRet X none post) (a : Nat → Nat → Int32) (b : Nat → Nat → Int64) (c : Nat → Int32) (hw : ∀ k, k < 24 → zB (a 1 k) (-100) 100) (h : Nat → Int64) (hpost : ∀ m h1, (∀ q, h1 q = if q < 9 then zV (gG (a 1)) 9 q 9 else h q) → post none (WH a b c m h1)) : ∀ (n k : Nat) (m : Nat → Int64), k ≤ 24 → 24 < k + n → (∀ r, r < 9 → ∀ q, q < 10 → m (10 * r + q) = ph3 (a 1) k r q) → ZG X 68 [some (.ref 0), some (.int (nI k)), none, none, none, none, none, none, none, none] [] (WH a b c m h) := by
  intro n
  induction n with
  | zero => intro k m z1 z2; omega
  | succ n ih =>
    intro k m hk1 hk2 hm
    refine z_iload_n hX dX6_findHeights_68 rfl ?_
    refine z_bipush (v := nI 24) hX dX6_findHeights_69 rfl ?_
    first | with_reducible refine z_icmp_geN (tgt := 130) hX dX6_findHeights_71 (by decide) (by omega) (by omega) (fun c_71 => ?_) (fun c_71 => ?_) | refine z_icmp_ge (tgt := 130) hX dX6_findHeights_71 (by decide) (fun c_71 => ?_) (fun c_71 => ?_)
    · -- 71 t
      refine z_lconst (v := 1) hX dX6_findHeights_130 rfl ?_
      refine z_lstore_n (ls' := [_, _, _, _, _, _, _, _, _, _]) hX dX6_findHeights_131 (Nat.le_of_ble_eq_true rfl) rfl ?_
      refine z_iconst (v := nI 0) hX dX6_findHeights_132 rfl ?_
      refine z_istore_n (ls' := [_, _, _, _, _, _, _, _, _, _]) hX dX6_findHeights_133 (Nat.le_of_ble_eq_true rfl) rfl ?_
      have zk : k = 24 := by omega
      subst zk
      refine z_norm (ls' := [some (.ref 0), some (.long (Int64.ofInt (zBD 0))), none, some (.int (nI 0)), none, none, none, none, none, none]) (by rw [show (1 : Int64) = Int64.ofInt (zBD 0) by decide +kernel]) rfl rfl ?_
      exact lp_fh_134 hX hR a b c (gG (a 1)) (fun t _ => gG_le hw t) h hpost 10 0 m (by omega) (by omega) (fun r hr q hq => by rw [hm r hr q hq, ph3_end (a 1) r hr q hq, if_neg (by omega)])
    · -- 71 f
      have hF := zFROM_le k
      have hT := zTO_le k
      refine z_iload_n hX dX6_findHeights_74 rfl ?_
      refine z_callS0 hX dX6_findHeights_75 ms_6_85 (c_X6_fromOf k (by omega) _) (by decide) rfl rfl (Nat.le_of_ble_eq_true rfl) (fun r w1 hp _ => ?_)
      obtain ⟨rfl, rfl⟩ := hp
      refine z_istore_n (ls' := [_, _, _, _, _, _, _, _, _, _]) hX dX6_findHeights_78 (Nat.le_of_ble_eq_true rfl) rfl ?_
      refine z_iload_n hX dX6_findHeights_79 rfl ?_
      refine z_callS0 hX dX6_findHeights_80 ms_6_89 (c_X6_toOf k (by omega) _) (by decide) rfl rfl (Nat.le_of_ble_eq_true rfl) (fun r w1 hp _ => ?_)
      obtain ⟨rfl, rfl⟩ := hp
      refine z_istore_n (ls' := [_, _, _, _, _, _, _, _, _, _]) hX dX6_findHeights_83 (Nat.le_of_ble_eq_true rfl) rfl ?_
      refine z_iload_n hX dX6_findHeights_84 rfl ?_
      refine z_bipush (v := nI 9) hX dX6_findHeights_85 rfl ?_
      first | with_reducible refine z_icmp_geN (tgt := 124) hX dX6_findHeights_87 (by decide) (by omega) (by omega) (fun c_87 => ?_) (fun c_87 => ?_) | refine z_icmp_ge (tgt := 124) hX dX6_findHeights_87 (by decide) (fun c_87 => ?_) (fun c_87 => ?_)
      · -- 87 t
        first | refine z_iincN (b := 1) (ls' := [_, _, _, _, _, _, _, _, _, _]) hX dX6_findHeights_124 rfl rfl rfl ?_ | refine z_iinc (ls' := [_, _, _, _, _, _, _, _, _, _]) hX dX6_findHeights_124 rfl rfl ?_
        refine z_goto (tgt := 68) hX dX6_findHeights_127 (by decide) ?_
        refine z_forget (ls' := [some (.ref 0), some (.int (nI (k + 1))), none, none, none, none, none, none, none, none]) ⟨rfl, rfl, trivial⟩ ?_
        first | exact ih (k + 1) _ (by omega) (by omega) (fun r hr q hq => by rw [ph3_no (by omega)]; exact hm r hr q hq) | exact ih (k + 1) _ (by omega) (by omega) (ph3_put (by omega) (by omega) hm)
      · -- 87 f
        refine z_iload_n hX dX6_findHeights_90 rfl ?_
        refine z_bipush (v := nI 9) hX dX6_findHeights_91 rfl ?_
        first | with_reducible refine z_icmp_geN (tgt := 124) hX dX6_findHeights_93 (by decide) (by omega) (by omega) (fun c_93 => ?_) (fun c_93 => ?_) | refine z_icmp_ge (tgt := 124) hX dX6_findHeights_93 (by decide) (fun c_93 => ?_) (fun c_93 => ?_)
        · -- 93 t
          first | refine z_iincN (b := 1) (ls' := [_, _, _, _, _, _, _, _, _, _]) hX dX6_findHeights_124 rfl rfl rfl ?_ | refine z_iinc (ls' := [_, _, _, _, _, _, _, _, _, _]) hX dX6_findHeights_124 rfl rfl ?_
          refine z_goto (tgt := 68) hX dX6_findHeights_127 (by decide) ?_
          refine z_forget (ls' := [some (.ref 0), some (.int (nI (k + 1))), none, none, none, none, none, none, none, none]) ⟨rfl, rfl, trivial⟩ ?_
          first | exact ih (k + 1) _ (by omega) (by omega) (fun r hr q hq => by rw [ph3_no (by omega)]; exact hm r hr q hq) | exact ih (k + 1) _ (by omega) (by omega) (ph3_put (by omega) (by omega) hm)
        · -- 93 f
          refine z_aload_n hX dX6_findHeights_96 rfl ?_
          refine z_get hX dX6_findHeights_97 f_6_13 rfl rfl ?_
          refine z_bipush (v := nI 10) hX dX6_findHeights_100 rfl ?_
          refine z_iload_n hX dX6_findHeights_102 rfl ?_
          first | with_reducible refine z_imulN hX dX6_findHeights_103 ?_ | refine z_imul hX dX6_findHeights_103 ?_
          refine z_iload_n hX dX6_findHeights_104 rfl ?_
          first | with_reducible refine z_iaddN hX dX6_findHeights_105 ?_ | refine z_iadd hX dX6_findHeights_105 ?_
          refine z_ldc2 hX dX6_findHeights_106 k_6_99 ?_
          refine z_last (w' := [_, _, _, _, _, _, _, _, _, _, _, _, _, _, _, _, _, _, _, _]) hX dX6_findHeights_109 rfl (by omega) (by decide) rfl ?_
          refine z_aload_n hX dX6_findHeights_110 rfl ?_
          refine z_get hX dX6_findHeights_111 f_6_13 rfl rfl ?_
          refine z_bipush (v := nI 10) hX dX6_findHeights_114 rfl ?_
          refine z_iload_n hX dX6_findHeights_116 rfl ?_
          first | with_reducible refine z_imulN hX dX6_findHeights_117 ?_ | refine z_imul hX dX6_findHeights_117 ?_
          refine z_iload_n hX dX6_findHeights_118 rfl ?_
          first | with_reducible refine z_iaddN hX dX6_findHeights_119 ?_ | refine z_iadd hX dX6_findHeights_119 ?_
          refine z_ldc2 hX dX6_findHeights_120 k_6_99 ?_
          refine z_last (w' := [_, _, _, _, _, _, _, _, _, _, _, _, _, _, _, _, _, _, _, _]) hX dX6_findHeights_123 rfl (by omega) (by decide) rfl ?_
          first | refine z_iincN (b := 1) (ls' := [_, _, _, _, _, _, _, _, _, _]) hX dX6_findHeights_124 rfl rfl rfl ?_ | refine z_iinc (ls' := [_, _, _, _, _, _, _, _, _, _]) hX dX6_findHeights_124 rfl rfl ?_
          refine z_goto (tgt := 68) hX dX6_findHeights_127 (by decide) ?_
          refine z_forget (ls' := [some (.ref 0), some (.int (nI (k + 1))), none, none, none, none, none, none, none, none]) ⟨rfl, rfl, trivial⟩ ?_
          first | exact ih (k + 1) _ (by omega) (by omega) (fun r hr q hq => by rw [ph3_no (by omega)]; exact hm r hr q hq) | exact ih (k + 1) _ (by omega) (by omega) (ph3_put (by omega) (by omega) hm)
set_option maxHeartbeats 4000000 in
set_option maxRecDepth 100000 in
theorem lp_fh_23 {X : ZX} {post : Option Value → ZW → Prop} (hX : ZOK X 6 cX6_findHeights 4) (hR : ZRet X none post) (a : Nat → Nat → Int32) (b : Nat → Nat → Int64) (c : Nat → Int32) (hw : ∀ k, k < 24 → zB (a 1 k) (-100) 100) (h : Nat → Int64) (hpost : ∀ m h1, (∀ q, h1 q = if q < 9 then zV (gG (a 1)) 9 q 9 else h q) → post none (WH a b c m h1)) : ∀ (n k : Nat) (m : Nat → Int64), k ≤ 9 → 9 < k + n → (∀ r, r < 9 → ∀ q, q < 10 → m (10 * r + q) = ph2 (a 1) k r q) → ZG X 23 [some (.ref 0), some (.int (nI k)), none, none, none, none, none, none, none, none] [] (WH a b c m h) := by
  intro n
  induction n with
  | zero => intro k m z1 z2; omega
  | succ n ih =>
    intro k m hk1 hk2 hm
    refine z_iload_n hX dX6_findHeights_23 rfl ?_
    refine z_bipush (v := nI 9) hX dX6_findHeights_24 rfl ?_
    first | with_reducible refine z_icmp_geN (tgt := 66) hX dX6_findHeights_26 (by decide) (by omega) (by omega) (fun c_26 => ?_) (fun c_26 => ?_) | refine z_icmp_ge (tgt := 66) hX dX6_findHeights_26 (by decide) (fun c_26 => ?_) (fun c_26 => ?_)
    · -- 26 t
      refine z_iconst (v := nI 0) hX dX6_findHeights_66 rfl ?_
      refine z_istore_n (ls' := [_, _, _, _, _, _, _, _, _, _]) hX dX6_findHeights_67 (Nat.le_of_ble_eq_true rfl) rfl ?_
      have zk : k = 9 := by omega
      subst zk
      exact lp_fh_68 hX hR a b c hw h hpost 25 0 m (by omega) (by omega) (fun r hr q hq => by rw [hm r hr q hq]; rfl)
    · -- 26 f
      refine z_aload_n hX dX6_findHeights_29 rfl ?_
      refine z_get hX dX6_findHeights_30 f_6_13 rfl rfl ?_
      refine z_bipush (v := nI 11) hX dX6_findHeights_33 rfl ?_
      refine z_iload_n hX dX6_findHeights_35 rfl ?_
      first | with_reducible refine z_imulN hX dX6_findHeights_36 ?_ | refine z_imul hX dX6_findHeights_36 ?_
      refine z_ldc2 hX dX6_findHeights_37 k_6_97 ?_
      refine z_last (w' := [_, _, _, _, _, _, _, _, _, _, _, _, _, _, _, _, _, _, _, _]) hX dX6_findHeights_40 rfl (by omega) (by decide) rfl ?_
      refine z_aload_n hX dX6_findHeights_41 rfl ?_
      refine z_get hX dX6_findHeights_42 f_6_13 rfl rfl ?_
      refine z_bipush (v := nI 10) hX dX6_findHeights_45 rfl ?_
      refine z_iload_n hX dX6_findHeights_47 rfl ?_
      first | with_reducible refine z_imulN hX dX6_findHeights_48 ?_ | refine z_imul hX dX6_findHeights_48 ?_
      refine z_bipush (v := nI 9) hX dX6_findHeights_49 rfl ?_
      first | with_reducible refine z_iaddN hX dX6_findHeights_51 ?_ | refine z_iadd hX dX6_findHeights_51 ?_
      refine z_aload_n hX dX6_findHeights_52 rfl ?_
      refine z_iload_n hX dX6_findHeights_53 rfl ?_
      refine z_callV0 hX dX6_findHeights_54 mv_6_94 (c_X6_given a (va_up (va_up b 2 (vp_updL m (11 * k) 4)) 3 h) c k (by omega)) (by decide) rfl rfl rfl rfl (Nat.le_of_ble_eq_true rfl) (fun r w1 hp _ => ?_)
      obtain ⟨rfl, rfl⟩ := hp
      refine z_ineg hX dX6_findHeights_57 ?_
      first | with_reducible refine z_i2lN hX dX6_findHeights_58 (by omega) ?_ | refine z_i2l hX dX6_findHeights_58 ?_
      refine z_last (w' := [_, _, _, _, _, _, _, _, _, _, _, _, _, _, _, _, _, _, _, _]) hX dX6_findHeights_59 rfl (by omega) (by decide) rfl ?_
      first | refine z_iincN (b := 1) (ls' := [_, _, _, _, _, _, _, _, _, _]) hX dX6_findHeights_60 rfl rfl rfl ?_ | refine z_iinc (ls' := [_, _, _, _, _, _, _, _, _, _]) hX dX6_findHeights_60 rfl rfl ?_
      refine z_goto (tgt := 23) hX dX6_findHeights_63 (by decide) ?_
      exact ih (k + 1) _ (by omega) (by omega) (ph2_put (by omega) hm)
set_option maxHeartbeats 4000000 in
set_option maxRecDepth 100000 in
theorem lp_fh_2 {X : ZX} {post : Option Value → ZW → Prop} (hX : ZOK X 6 cX6_findHeights 4) (hR : ZRet X none post) (a : Nat → Nat → Int32) (b : Nat → Nat → Int64) (c : Nat → Int32) (hw : ∀ k, k < 24 → zB (a 1 k) (-100) 100) (h : Nat → Int64) (hpost : ∀ m h1, (∀ q, h1 q = if q < 9 then zV (gG (a 1)) 9 q 9 else h q) → post none (WH a b c m h1)) : ∀ (n k : Nat) (m : Nat → Int64), k ≤ 90 → 90 < k + n → (∀ p, p < k → m p = 0) → ZG X 2 [some (.ref 0), some (.int (nI k)), none, none, none, none, none, none, none, none] [] (WH a b c m h) := by
  intro n
  induction n with
  | zero => intro k m z1 z2; omega
  | succ n ih =>
    intro k m hk1 hk2 hm
    refine z_iload_n hX dX6_findHeights_2 rfl ?_
    refine z_bipush (v := nI 90) hX dX6_findHeights_3 rfl ?_
    first | with_reducible refine z_icmp_geN (tgt := 21) hX dX6_findHeights_5 (by decide) (by omega) (by omega) (fun c_5 => ?_) (fun c_5 => ?_) | refine z_icmp_ge (tgt := 21) hX dX6_findHeights_5 (by decide) (fun c_5 => ?_) (fun c_5 => ?_)
    · -- 5 t
      refine z_iconst (v := nI 0) hX dX6_findHeights_21 rfl ?_
      refine z_istore_n (ls' := [_, _, _, _, _, _, _, _, _, _]) hX dX6_findHeights_22 (Nat.le_of_ble_eq_true rfl) rfl ?_
      exact lp_fh_23 hX hR a b c hw h hpost 10 0 m (by omega) (by omega) (fun r hr q hq => by rw [hm _ (by omega)]; rfl)
    · -- 5 f
      refine z_aload_n hX dX6_findHeights_8 rfl ?_
      refine z_get hX dX6_findHeights_9 f_6_13 rfl rfl ?_
      refine z_iload_n hX dX6_findHeights_12 rfl ?_
      refine z_lconst (v := 0) hX dX6_findHeights_13 rfl ?_
      refine z_last (w' := [_, _, _, _, _, _, _, _, _, _, _, _, _, _, _, _, _, _, _, _]) hX dX6_findHeights_14 rfl (by omega) (by decide) rfl ?_
      first | refine z_iincN (b := 1) (ls' := [_, _, _, _, _, _, _, _, _, _]) hX dX6_findHeights_15 rfl rfl rfl ?_ | refine z_iinc (ls' := [_, _, _, _, _, _, _, _, _, _]) hX dX6_findHeights_15 rfl rfl ?_
      refine z_goto (tgt := 2) hX dX6_findHeights_18 (by decide) ?_
      refine ih (k + 1) _ (by omega) (by omega) (fun p hp => ?_)
      by_cases e : p = k
      · rw [e, pk_uLs]
      · rw [pk_uLn e]
        exact hm p (by omega)
set_option maxHeartbeats 4000000 in
set_option maxRecDepth 100000 in
theorem c_X6_findHeights (a : Nat → Nat → Int32) (b : Nat → Nat → Int64) (c : Nat → Int32) (hw : ∀ k, k < 24 → zB (a 1 k) (-100) 100) : ∀ l, ZC l yX6_findHeights cX6_findHeights 10 none 4 [.ref 0] (WM a b c) (fun r w' => r = none ∧ ∃ m h1, w' = WH a b c m h1 ∧ ∀ q, h1 q = if q < 9 then zV (gG (a 1)) 9 q 9 else b 3 q) := by
  intro l
  refine zc_intro (oc := 6) (by decide +kernel) rfl (Nat.le_of_ble_eq_true rfl) ?_
  intro X hX hR
  refine z_norm (ls' := [_, _, _, _, _, _, _, _, _, _]) rfl rfl rfl ?_
  refine z_iconst (v := nI 0) hX dX6_findHeights_0 rfl ?_
  refine z_istore_n (ls' := [_, _, _, _, _, _, _, _, _, _]) hX dX6_findHeights_1 (Nat.le_of_ble_eq_true rfl) rfl ?_
  exact lp_fh_2 hX hR a b c hw (b 3) (fun m h1 e => ⟨rfl, m, h1, rfl, e⟩) 91 0 (b 2) (by omega) (by omega) (fun p hp => by omega)
