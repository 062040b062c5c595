/-! ===== the reference: carry, write, hours ===== -/
def bInv (nn st : Nat → Int64) (s : Nat) (r : Int32) (g t0 : Nat → Int64) (k : Nat) (n t : Nat → Int64) : Prop := (∀ q, q < 9 → n q = accM nn st q k) ∧ ∀ p, t p = if p = 4 * s + 1 then accA (fun x => washF (g (9 * s + x)) r) k (t0 (4 * s + 1)) else if p = 4 * s + 2 then accA (fun x => laidF (g (9 * s + x)) r) k (t0 (4 * s + 2)) else if p = 4 * s + 3 then accO nn st k (t0 (4 * s + 3)) else t0 p
theorem bInv_0 {nn st : Nat → Int64} {s : Nat} {r : Int32} {g t0 n : Nat → Int64} (hn : ∀ q, q < 9 → n q = 0) : bInv nn st s r g t0 0 n t0 := by
  refine ⟨hn, fun p => ?_⟩
  by_cases h1 : p = 4 * s + 1
  · rw [if_pos h1, h1]
    rfl
  · rw [if_neg h1]
    by_cases h2 : p = 4 * s + 2
    · rw [if_pos h2, h2]
      rfl
    · rw [if_neg h2]
      by_cases h3 : p = 4 * s + 3
      · rw [if_pos h3, h3]
        rfl
      · rw [if_neg h3]
theorem bInv_s {nn st : Nat → Int64} {s : Nat} {r : Int32} {g t0 : Nat → Int64} {k : Nat} {n t n1 t1 : Nat → Int64} (h : bInv nn st s r g t0 k n t) (hw : wInv nn st k s 24 (vp_updL n k (n k + nn k)) (vp_updL (vp_updL t (4 * s + 1) (t (4 * s + 1) + washF (g (9 * s + k)) r)) (4 * s + 2) (vp_updL t (4 * s + 1) (t (4 * s + 1) + washF (g (9 * s + k)) r) (4 * s + 2) + laidF (g (9 * s + k)) r)) n1 t1) : bInv nn st s r g t0 (k + 1) n1 t1 := by
  refine ⟨fun q hq => ?_, fun p => ?_⟩
  · rw [hw.1 q hq, accM_s]
    congr 1
    by_cases e : q = k
    · subst e
      rw [pk_uLs, if_pos rfl, h.1 q hq]
    · rw [pk_uLn e, if_neg e, Int64.add_zero, h.1 q hq]
  · rw [hw.2 p]
    have h1 := h.2 (4 * s + 1)
    have h2 := h.2 (4 * s + 2)
    have h3 := h.2 (4 * s + 3)
    rw [if_pos rfl] at h1
    rw [if_neg (by omega), if_pos rfl] at h2
    rw [if_neg (by omega), if_neg (by omega), if_pos rfl] at h3
    by_cases e3 : p = 4 * s + 3
    · rw [if_pos e3, if_neg (show ¬ p = 4 * s + 1 by omega), if_neg (show ¬ p = 4 * s + 2 by omega), if_pos e3, accO_s, pk_uLn (by omega), pk_uLn (by omega), h3]
    · rw [if_neg e3]
      by_cases e2 : p = 4 * s + 2
      · rw [e2, pk_uLs, pk_uLn (by omega), if_neg (by omega), if_pos rfl, accA_s, h2]
      · rw [pk_uLn e2]
        by_cases e1 : p = 4 * s + 1
        · rw [e1, pk_uLs, if_pos rfl, accA_s, h1]
        · rw [pk_uLn e1, h.2 p, if_neg e1, if_neg e2, if_neg e3, if_neg e1, if_neg e2, if_neg e3]
set_option maxHeartbeats 4000000 in
set_option maxRecDepth 100000 in
theorem lp_cy_344 {X : ZX} {post : Option Value → ZW → Prop} (hX : ZOK X 6 cX6_carry 4) (hR : ZRet X none post) (a : Nat → Nat → Int32) (b : Nat → Nat → Int64) (c : Nat → Int32) (s : Nat) (hs : s < 3) (r : Int32) (g t n : Nat → Int64) (hpost : ∀ g1, (∀ p, g1 p = if 9 * s ≤ p ∧ p < 9 * s + 9 then n (p - 9 * s) else g p) → post none (WM a (va_up (va_up (va_up b 9 g1) 10 t) 11 n) c)) : ∀ (m k : Nat) (g1 : Nat → Int64), k ≤ 9 → 9 < k + m → (∀ p, g1 p = if 9 * s ≤ p ∧ p < 9 * s + k then n (p - 9 * s) else g p) → ZG X 344 [some (.ref 0), some (.int (nI s)), some (.int r), none, some (.int (nI k)), none, none, none, none, none, none, none, none, none, none, none, none, none, none, none] [] (WM a (va_up (va_up (va_up b 9 g1) 10 t) 11 n) c) := by
  intro m
  induction m with
  | zero => intro k g1 z1 z2; omega
  | succ m ih =>
    intro k g1 hk1 hk2 hg
    refine z_iload hX dX6_carry_344 rfl ?_
    refine z_bipush (v := nI 9) hX dX6_carry_346 rfl ?_
    first | with_reducible refine z_icmp_geN (tgt := 376) hX dX6_carry_348 (by decide) (by omega) (by omega) (fun c_348 => ?_) (fun c_348 => ?_) | refine z_icmp_ge (tgt := 376) hX dX6_carry_348 (by decide) (fun c_348 => ?_) (fun c_348 => ?_)
    · -- 348 t
      have zk : k = 9 := by omega
      subst zk
      refine z_vret hX hR dX6_carry_376 ?_
      exact hpost g1 hg
    · -- 348 f
      refine z_aload_n hX dX6_carry_351 rfl ?_
      refine z_get hX dX6_carry_352 f_6_35 rfl rfl ?_
      refine z_bipush (v := nI 9) hX dX6_carry_355 rfl ?_
      refine z_iload_n hX dX6_carry_357 rfl ?_
      first | with_reducible refine z_imulN hX dX6_carry_358 ?_ | refine z_imul hX dX6_carry_358 ?_
      refine z_iload hX dX6_carry_359 rfl ?_
      first | with_reducible refine z_iaddN hX dX6_carry_361 ?_ | refine z_iadd hX dX6_carry_361 ?_
      refine z_aload_n hX dX6_carry_362 rfl ?_
      refine z_get hX dX6_carry_363 f_6_41 rfl rfl ?_
      refine z_iload hX dX6_carry_366 rfl ?_
      refine z_lald hX dX6_carry_368 rfl (by omega) (by decide) ?_
      refine z_last (w' := [_, _, _, _, _, _, _, _, _, _, _, _, _, _, _, _, _, _, _, _]) hX dX6_carry_369 rfl (by omega) (by decide) rfl ?_
      first | refine z_iincN (b := 1) (ls' := [_, _, _, _, _, _, _, _, _, _, _, _, _, _, _, _, _, _, _, _]) hX dX6_carry_370 rfl rfl rfl ?_ | refine z_iinc (ls' := [_, _, _, _, _, _, _, _, _, _, _, _, _, _, _, _, _, _, _, _]) hX dX6_carry_370 rfl rfl ?_
      refine z_goto (tgt := 344) hX dX6_carry_373 (by decide) ?_
      refine ih (k + 1) (vp_updL g1 (9 * s + k) (n k)) (by omega) (by omega) (fun p => ?_)
      by_cases e : p = 9 * s + k
      · rw [e, pk_uLs, if_pos (by omega), show 9 * s + k - 9 * s = k by omega]
      · rw [pk_uLn e, hg p]
        by_cases e2 : 9 * s ≤ p ∧ p < 9 * s + k
        · rw [if_pos e2, if_pos (by omega)]
        · rw [if_neg e2, if_neg (by omega)]
set_option maxHeartbeats 4000000 in
set_option maxRecDepth 100000 in
theorem lp_cy_79 {X : ZX} {post : Option Value → ZW → Prop} (hX : ZOK X 6 cX6_carry 4) (hR : ZRet X none post) (a : Nat → Nat → Int32) (b : Nat → Nat → Int64) (c : Nat → Int32) (s : Nat) (hs : s < 3) (r : Int32) (g t0 : Nat → Int64) (hpost : ∀ n t, bInv (fun q => leftF (g (9 * s + q)) r) (stillF (a 1) (b 3)) s r g t0 9 n t → ∀ g1, (∀ p, g1 p = if 9 * s ≤ p ∧ p < 9 * s + 9 then n (p - 9 * s) else g p) → post none (WM a (va_up (va_up (va_up b 9 g1) 10 t) 11 n) c)) : ∀ (m k : Nat) (n t : Nat → Int64), k ≤ 9 → 9 < k + m → bInv (fun q => leftF (g (9 * s + q)) r) (stillF (a 1) (b 3)) s r g t0 k n t → ZG X 79 [some (.ref 0), some (.int (nI s)), some (.int r), none, some (.int (nI k)), none, none, none, none, none, none, none, none, none, none, none, none, none, none, none] [] (WM a (va_up (va_up (va_up b 9 g) 10 t) 11 n) c) := by
  intro m
  induction m with
  | zero => intro k n t z1 z2; omega
  | succ m ih =>
    intro k n t hk1 hk2 hI
    refine z_iload hX dX6_carry_79 rfl ?_
    refine z_bipush (v := nI 9) hX dX6_carry_81 rfl ?_
    first | with_reducible refine z_icmp_geN (tgt := 341) hX dX6_carry_83 (by decide) (by omega) (by omega) (fun c_83 => ?_) (fun c_83 => ?_) | refine z_icmp_ge (tgt := 341) hX dX6_carry_83 (by decide) (fun c_83 => ?_) (fun c_83 => ?_)
    · -- 83 t
      refine z_iconst (v := nI 0) hX dX6_carry_341 rfl ?_
      refine z_istore (ls' := [_, _, _, _, _, _, _, _, _, _, _, _, _, _, _, _, _, _, _, _]) hX dX6_carry_342 (Nat.le_of_ble_eq_true rfl) rfl ?_
      have zk : k = 9 := by omega
      subst zk
      refine z_forget (ls' := [some (.ref 0), some (.int (nI s)), some (.int r), none, some (.int (nI 0)), none, none, none, none, none, none, none, none, none, none, none, none, none, none, none]) ⟨rfl, rfl, rfl, rfl, trivial⟩ ?_
      exact lp_cy_344 hX hR a b c s hs r g t n (hpost n t hI) 10 0 g (by omega) (by omega) (fun p => by rw [if_neg (by omega)])
    · -- 83 f
      refine z_aload_n hX dX6_carry_86 rfl ?_
      refine z_get hX dX6_carry_87 f_6_35 rfl rfl ?_
      refine z_bipush (v := nI 9) hX dX6_carry_90 rfl ?_
      refine z_iload_n hX dX6_carry_92 rfl ?_
      first | with_reducible refine z_imulN hX dX6_carry_93 ?_ | refine z_imul hX dX6_carry_93 ?_
      refine z_iload hX dX6_carry_94 rfl ?_
      first | with_reducible refine z_iaddN hX dX6_carry_96 ?_ | refine z_iadd hX dX6_carry_96 ?_
      refine z_lald hX dX6_carry_97 rfl (by omega) (by decide) ?_
      refine z_lstore (ls' := [_, _, _, _, _, _, _, _, _, _, _, _, _, _, _, _, _, _, _, _]) hX dX6_carry_98 (Nat.le_of_ble_eq_true rfl) rfl ?_
      refine z_lload hX dX6_carry_100 rfl ?_
      refine z_iload_n hX dX6_carry_102 rfl ?_
      refine z_i2l hX dX6_carry_103 ?_
      refine z_lmul hX dX6_carry_104 ?_
      refine z_ldc2 hX dX6_carry_105 k_6_127 ?_
      refine z_ldiv hX dX6_carry_108 (by decide) ?_
      refine z_lstore (ls' := [_, _, _, _, _, _, _, _, _, _, _, _, _, _, _, _, _, _, _, _]) hX dX6_carry_109 (Nat.le_of_ble_eq_true rfl) rfl ?_
      refine z_lload hX dX6_carry_111 rfl ?_
      refine z_lload hX dX6_carry_113 rfl ?_
      refine z_lsub hX dX6_carry_115 ?_
      refine z_ldc2 hX dX6_carry_116 k_6_127 ?_
      refine z_ldiv hX dX6_carry_119 (by decide) ?_
      refine z_lstore (ls' := [_, _, _, _, _, _, _, _, _, _, _, _, _, _, _, _, _, _, _, _]) hX dX6_carry_120 (Nat.le_of_ble_eq_true rfl) rfl ?_
      refine z_lload hX dX6_carry_122 rfl ?_
      refine z_lload hX dX6_carry_124 rfl ?_
      refine z_lsub hX dX6_carry_126 ?_
      refine z_lload hX dX6_carry_127 rfl ?_
      refine z_lsub hX dX6_carry_129 ?_
      refine z_lstore (ls' := [_, _, _, _, _, _, _, _, _, _, _, _, _, _, _, _, _, _, _, _]) hX dX6_carry_130 (Nat.le_of_ble_eq_true rfl) rfl ?_
      refine z_aload_n hX dX6_carry_132 rfl ?_
      refine z_get hX dX6_carry_133 f_6_38 rfl rfl ?_
      refine z_iconst (v := nI 4) hX dX6_carry_136 rfl ?_
      refine z_iload_n hX dX6_carry_137 rfl ?_
      first | with_reducible refine z_imulN hX dX6_carry_138 ?_ | refine z_imul hX dX6_carry_138 ?_
      refine z_iconst (v := nI 1) hX dX6_carry_139 rfl ?_
      first | with_reducible refine z_iaddN hX dX6_carry_140 ?_ | refine z_iadd hX dX6_carry_140 ?_
      first | refine z_dup2_2 hX dX6_carry_141 rfl ?_ | refine z_dup2_11 hX dX6_carry_141 rfl rfl ?_
      refine z_lald hX dX6_carry_142 rfl (by omega) (by decide) ?_
      refine z_lload hX dX6_carry_143 rfl ?_
      refine z_ladd hX dX6_carry_145 ?_
      refine z_last (w' := [_, _, _, _, _, _, _, _, _, _, _, _, _, _, _, _, _, _, _, _]) hX dX6_carry_146 rfl (by omega) (by decide) rfl ?_
      refine z_aload_n hX dX6_carry_147 rfl ?_
      refine z_get hX dX6_carry_148 f_6_38 rfl rfl ?_
      refine z_iconst (v := nI 4) hX dX6_carry_151 rfl ?_
      refine z_iload_n hX dX6_carry_152 rfl ?_
      first | with_reducible refine z_imulN hX dX6_carry_153 ?_ | refine z_imul hX dX6_carry_153 ?_
      refine z_iconst (v := nI 2) hX dX6_carry_154 rfl ?_
      first | with_reducible refine z_iaddN hX dX6_carry_155 ?_ | refine z_iadd hX dX6_carry_155 ?_
      first | refine z_dup2_2 hX dX6_carry_156 rfl ?_ | refine z_dup2_11 hX dX6_carry_156 rfl rfl ?_
      refine z_lald hX dX6_carry_157 rfl (by omega) (by decide) ?_
      refine z_lload hX dX6_carry_158 rfl ?_
      refine z_ladd hX dX6_carry_160 ?_
      refine z_last (w' := [_, _, _, _, _, _, _, _, _, _, _, _, _, _, _, _, _, _, _, _]) hX dX6_carry_161 rfl (by omega) (by decide) rfl ?_
      refine z_aload_n hX dX6_carry_162 rfl ?_
      refine z_get hX dX6_carry_163 f_6_41 rfl rfl ?_
      refine z_iload hX dX6_carry_166 rfl ?_
      first | refine z_dup2_2 hX dX6_carry_168 rfl ?_ | refine z_dup2_11 hX dX6_carry_168 rfl rfl ?_
      refine z_lald hX dX6_carry_169 rfl (by omega) (by decide) ?_
      refine z_lload hX dX6_carry_170 rfl ?_
      refine z_ladd hX dX6_carry_172 ?_
      refine z_last (w' := [_, _, _, _, _, _, _, _, _, _, _, _, _, _, _, _, _, _, _, _]) hX dX6_carry_173 rfl (by omega) (by decide) rfl ?_
      refine z_iconst (v := nI 0) hX dX6_carry_174 rfl ?_
      refine z_istore (ls' := [_, _, _, _, _, _, _, _, _, _, _, _, _, _, _, _, _, _, _, _]) hX dX6_carry_175 (Nat.le_of_ble_eq_true rfl) rfl ?_
      refine z_forget (ls' := [some (.ref 0), some (.int (nI s)), some (.int r), none, some (.int (nI k)), none, none, none, none, none, none, some (.long ((fun q => leftF (g (9 * s + q)) r) k)), none, some (.int (nI 0)), none, none, none, none, none, none]) ⟨rfl, rfl, rfl, rfl, rfl, rfl, trivial⟩ ?_
      refine lp_cy_177 hX hR a b c (fun q => leftF (g (9 * s + q)) r) s hs r g _ _ k (by omega) (fun n1 t1 hJ => ?_) 25 0 _ _ (by omega) (by omega) (wInv_0 _ _ _ _ _ _)
      first | refine z_iincN (b := 1) (ls' := [_, _, _, _, _, _, _, _, _, _, _, _, _, _, _, _, _, _, _, _]) hX dX6_carry_335 rfl rfl rfl ?_ | refine z_iinc (ls' := [_, _, _, _, _, _, _, _, _, _, _, _, _, _, _, _, _, _, _, _]) hX dX6_carry_335 rfl rfl ?_
      refine z_goto (tgt := 79) hX dX6_carry_338 (by decide) ?_
      refine z_forget (ls' := [some (.ref 0), some (.int (nI s)), some (.int r), none, some (.int (nI (k + 1))), none, none, none, none, none, none, none, none, none, none, none, none, none, none, none]) ⟨rfl, rfl, rfl, rfl, trivial⟩ ?_
      exact ih (k + 1) n1 t1 (by omega) (by omega) (bInv_s hI hJ)
set_option maxHeartbeats 4000000 in
set_option maxRecDepth 100000 in
theorem lp_cy_55 {X : ZX} {post : Option Value → ZW → Prop} (hX : ZOK X 6 cX6_carry 4) (hR : ZRet X none post) (a : Nat → Nat → Int32) (b : Nat → Nat → Int64) (c : Nat → Int32) (s : Nat) (hs : s < 3) (r : Int32) (g t0 : Nat → Int64) (hpost : ∀ n t, bInv (fun q => leftF (g (9 * s + q)) r) (stillF (a 1) (b 3)) s r g t0 9 n t → ∀ g1, (∀ p, g1 p = if 9 * s ≤ p ∧ p < 9 * s + 9 then n (p - 9 * s) else g p) → post none (WM a (va_up (va_up (va_up b 9 g1) 10 t) 11 n) c)) : ∀ (m k : Nat) (n : Nat → Int64), k ≤ 9 → 9 < k + m → (∀ q, q < k → n q = 0) → ZG X 55 [some (.ref 0), some (.int (nI s)), some (.int r), none, some (.int (nI k)), none, none, none, none, none, none, none, none, none, none, none, none, none, none, none] [] (WM a (va_up (va_up (va_up b 9 g) 10 t0) 11 n) c) := by
  intro m
  induction m with
  | zero => intro k n z1 z2; omega
  | succ m ih =>
    intro k n hk1 hk2 hI
    refine z_iload hX dX6_carry_55 rfl ?_
    refine z_bipush (v := nI 9) hX dX6_carry_57 rfl ?_
    first | with_reducible refine z_icmp_geN (tgt := 76) hX dX6_carry_59 (by decide) (by omega) (by omega) (fun c_59 => ?_) (fun c_59 => ?_) | refine z_icmp_ge (tgt := 76) hX dX6_carry_59 (by decide) (fun c_59 => ?_) (fun c_59 => ?_)
    · -- 59 t
      refine z_iconst (v := nI 0) hX dX6_carry_76 rfl ?_
      refine z_istore (ls' := [_, _, _, _, _, _, _, _, _, _, _, _, _, _, _, _, _, _, _, _]) hX dX6_carry_77 (Nat.le_of_ble_eq_true rfl) rfl ?_
      have zk : k = 9 := by omega
      subst zk
      exact lp_cy_79 hX hR a b c s hs r g t0 hpost 10 0 n t0 (by omega) (by omega) (bInv_0 hI)
    · -- 59 f
      refine z_aload_n hX dX6_carry_62 rfl ?_
      refine z_get hX dX6_carry_63 f_6_41 rfl rfl ?_
      refine z_iload hX dX6_carry_66 rfl ?_
      refine z_lconst (v := 0) hX dX6_carry_68 rfl ?_
      refine z_last (w' := [_, _, _, _, _, _, _, _, _, _, _, _, _, _, _, _, _, _, _, _]) hX dX6_carry_69 rfl (by omega) (by decide) rfl ?_
      first | refine z_iincN (b := 1) (ls' := [_, _, _, _, _, _, _, _, _, _, _, _, _, _, _, _, _, _, _, _]) hX dX6_carry_70 rfl rfl rfl ?_ | refine z_iinc (ls' := [_, _, _, _, _, _, _, _, _, _, _, _, _, _, _, _, _, _, _, _]) hX dX6_carry_70 rfl rfl ?_
      refine z_goto (tgt := 55) hX dX6_carry_73 (by decide) ?_
      refine ih (k + 1) (vp_updL n k 0) (by omega) (by omega) (fun q hq => ?_)
      by_cases e : q = k
      · rw [e, pk_uLs]
      · rw [pk_uLn e]
        exact hI q (by omega)
/-- the grains and totals as the rate is given off -/
def offG (b9 : Nat → Int64) (s hm : Nat) (rt : Int32) : Nat → Int64 := vp_updL b9 (9 * s + hm) (b9 (9 * s + hm) + rt.toInt64)
def offT (b10 : Nat → Int64) (s : Nat) (rt : Int32) : Nat → Int64 := vp_updL b10 (4 * s) (b10 (4 * s) + rt.toInt64)
def nnF (g : Nat → Int64) (s : Nat) (r : Int32) (q : Nat) : Int64 := leftF (g (9 * s + q)) r
def cyG (st b9 : Nat → Int64) (s hm : Nat) (rt r : Int32) (p : Nat) : Int64 := if 9 * s ≤ p ∧ p < 9 * s + 9 then accM (nnF (offG b9 s hm rt) s r) st (p - 9 * s) 9 else b9 p
def cyT (st b9 b10 : Nat → Int64) (s hm : Nat) (rt r : Int32) (p : Nat) : Int64 := if p = 4 * s + 1 then accA (fun x => washF (offG b9 s hm rt (9 * s + x)) r) 9 (b10 (4 * s + 1)) else if p = 4 * s + 2 then accA (fun x => laidF (offG b9 s hm rt (9 * s + x)) r) 9 (b10 (4 * s + 2)) else if p = 4 * s + 3 then accO (nnF (offG b9 s hm rt) s r) st 9 (b10 (4 * s + 3)) else if p = 4 * s then b10 (4 * s) + rt.toInt64 else b10 p
theorem cy_end {st b9 b10 g1 n t : Nat → Int64} {s hm : Nat} {rt r : Int32} (hm9 : hm < 9) (hI : bInv (fun q => leftF (offG b9 s hm rt (9 * s + q)) r) st s r (offG b9 s hm rt) (offT b10 s rt) 9 n t) (hg : ∀ p, g1 p = if 9 * s ≤ p ∧ p < 9 * s + 9 then n (p - 9 * s) else offG b9 s hm rt p) : g1 = cyG st b9 s hm rt r ∧ t = cyT st b9 b10 s hm rt r := by
  constructor
  · funext p
    rw [hg p]
    unfold cyG
    by_cases e : 9 * s ≤ p ∧ p < 9 * s + 9
    · rw [if_pos e, if_pos e, hI.1 _ (by omega)]
      rfl
    · rw [if_neg e, if_neg e]
      exact pk_uLn (by omega)
  · funext p
    rw [hI.2 p]
    unfold cyT
    have o : ∀ q, q ≠ 4 * s → offT b10 s rt q = b10 q := fun q hq => pk_uLn hq
    rw [o (4 * s + 1) (by omega), o (4 * s + 2) (by omega), o (4 * s + 3) (by omega)]
    by_cases h1 : p = 4 * s + 1
    · rw [if_pos h1, if_pos h1]
    · rw [if_neg h1, if_neg h1]
      by_cases h2 : p = 4 * s + 2
      · rw [if_pos h2, if_pos h2]
      · rw [if_neg h2, if_neg h2]
        by_cases h3 : p = 4 * s + 3
        · rw [if_pos h3, if_pos h3]
          rfl
        · rw [if_neg h3, if_neg h3]
          by_cases h4 : p = 4 * s
          · rw [if_pos h4, h4]
            exact pk_uLs
          · rw [if_neg h4]
            exact o p h4
set_option maxHeartbeats 4000000 in
set_option maxRecDepth 100000 in
theorem c_X6_carry (a : Nat → Nat → Int32) (b : Nat → Nat → Int64) (c : Nat → Int32) (s hm tm : Nat) (hs : s < 3) (hm9 : hm < 9) (htm : tm < 2147483648) (hc : c 0 = nI tm) (h7 : a 7 s = nI hm) (r : Int32) : ∀ l, ZC l yX6_carry cX6_carry 20 none 4 [.ref 0, .int (nI s), .int r] (WM a b c) (fun r0 w' => r0 = none ∧ ∃ n, w' = WM a (va_up (va_up (va_up b 9 (cyG (stillF (a 1) (b 3)) (b 9) s hm (a 8 (24 * s + tm % 24)) r)) 10 (cyT (stillF (a 1) (b 3)) (b 9) (b 10) s hm (a 8 (24 * s + tm % 24)) r)) 11 n) c) := by
  intro l
  refine zc_intro (oc := 6) (by decide +kernel) rfl (Nat.le_of_ble_eq_true rfl) ?_
  intro X hX hR
  refine z_norm (ls' := [_, _, _, _, _, _, _, _, _, _, _, _, _, _, _, _, _, _, _, _]) rfl rfl rfl ?_
  refine z_aload_n hX dX6_carry_0 rfl ?_
  refine z_get hX dX6_carry_1 f_6_32 rfl rfl ?_
  refine z_bipush (v := nI 24) hX dX6_carry_4 rfl ?_
  refine z_iload_n hX dX6_carry_6 rfl ?_
  first | with_reducible refine z_imulN hX dX6_carry_7 ?_ | refine z_imul hX dX6_carry_7 ?_
  refine z_aload_n hX dX6_carry_8 rfl ?_
  refine z_get hX dX6_carry_9 f_6_123 rfl rfl ?_
  refine z_top hc ?_
  refine z_bipush (v := nI 24) hX dX6_carry_12 rfl ?_
  first | with_reducible refine z_iremN hX dX6_carry_14 (by omega) (by decide) (by decide) ?_ | refine z_irem hX dX6_carry_14 (by decide) ?_
  first | with_reducible refine z_iaddN hX dX6_carry_15 ?_ | refine z_iadd hX dX6_carry_15 ?_
  first | refine z_iald hX dX6_carry_16 rfl (by omega) (by decide) ?_ | refine z_stld (nm := "FROM") (xs := zFROM) hX dX6_carry_16 (fun _ _ _ _ h => h.1) (by show _ < 24; omega) (by decide) ?_ | refine z_stld (nm := "TO") (xs := zTO) hX dX6_carry_16 (fun _ _ _ _ h => h.2.1) (by show _ < 24; omega) (by decide) ?_ | refine z_stld (nm := "FALL") (xs := zFALL) hX dX6_carry_16 (fun _ _ _ _ h => h.2.2.1) (by show _ < 81; omega) (by decide) ?_
  refine z_istore_n (ls' := [_, _, _, _, _, _, _, _, _, _, _, _, _, _, _, _, _, _, _, _]) hX dX6_carry_17 (Nat.le_of_ble_eq_true rfl) rfl ?_
  refine z_aload_n hX dX6_carry_18 rfl ?_
  refine z_get hX dX6_carry_19 f_6_35 rfl rfl ?_
  refine z_bipush (v := nI 9) hX dX6_carry_22 rfl ?_
  refine z_iload_n hX dX6_carry_24 rfl ?_
  first | with_reducible refine z_imulN hX dX6_carry_25 ?_ | refine z_imul hX dX6_carry_25 ?_
  refine z_aload_n hX dX6_carry_26 rfl ?_
  refine z_get hX dX6_carry_27 f_6_29 rfl rfl ?_
  refine z_iload_n hX dX6_carry_30 rfl ?_
  refine z_iald hX dX6_carry_31 rfl (by omega) (by decide) ?_
  refine z_top h7 ?_
  first | with_reducible refine z_iaddN hX dX6_carry_32 ?_ | refine z_iadd hX dX6_carry_32 ?_
  first | refine z_dup2_2 hX dX6_carry_33 rfl ?_ | refine z_dup2_11 hX dX6_carry_33 rfl rfl ?_
  refine z_lald hX dX6_carry_34 rfl (by omega) (by decide) ?_
  refine z_iload_n hX dX6_carry_35 rfl ?_
  refine z_i2l hX dX6_carry_36 ?_
  refine z_ladd hX dX6_carry_37 ?_
  refine z_last (w' := [_, _, _, _, _, _, _, _, _, _, _, _, _, _, _, _, _, _, _, _]) hX dX6_carry_38 rfl (by omega) (by decide) rfl ?_
  refine z_aload_n hX dX6_carry_39 rfl ?_
  refine z_get hX dX6_carry_40 f_6_38 rfl rfl ?_
  refine z_iconst (v := nI 4) hX dX6_carry_43 rfl ?_
  refine z_iload_n hX dX6_carry_44 rfl ?_
  first | with_reducible refine z_imulN hX dX6_carry_45 ?_ | refine z_imul hX dX6_carry_45 ?_
  first | refine z_dup2_2 hX dX6_carry_46 rfl ?_ | refine z_dup2_11 hX dX6_carry_46 rfl rfl ?_
  refine z_lald hX dX6_carry_47 rfl (by omega) (by decide) ?_
  refine z_iload_n hX dX6_carry_48 rfl ?_
  refine z_i2l hX dX6_carry_49 ?_
  refine z_ladd hX dX6_carry_50 ?_
  refine z_last (w' := [_, _, _, _, _, _, _, _, _, _, _, _, _, _, _, _, _, _, _, _]) hX dX6_carry_51 rfl (by omega) (by decide) rfl ?_
  refine z_iconst (v := nI 0) hX dX6_carry_52 rfl ?_
  refine z_istore (ls' := [_, _, _, _, _, _, _, _, _, _, _, _, _, _, _, _, _, _, _, _]) hX dX6_carry_53 (Nat.le_of_ble_eq_true rfl) rfl ?_
  refine z_forget (ls' := [some (.ref 0), some (.int (nI s)), some (.int r), none, some (.int (nI 0)), none, none, none, none, none, none, none, none, none, none, none, none, none, none, none]) ⟨rfl, rfl, rfl, rfl, trivial⟩ ?_
  refine lp_cy_55 hX hR a b c s hs r (offG (b 9) s hm (a 8 (24 * s + tm % 24))) (offT (b 10) s (a 8 (24 * s + tm % 24))) (fun n t hI g1 hg => ?_) 10 0 (b 11) (by omega) (by omega) (fun q hq => by omega)
  obtain ⟨e1, e2⟩ := cy_end hm9 hI hg
  subst e1
  subst e2
  exact ⟨rfl, n, rfl⟩
