/-! ===== the reference: an hour's carrying ===== -/
theorem z_top {X : ZX} {pc : Nat} {ls : List (Option Value)} {st : List Value} {w : ZW} {x y : Int32} (h : x = y) (k : ZG X pc ls (.int y :: st) w) : ZG X pc ls (.int x :: st) w := h ▸ k
theorem z_topl {X : ZX} {pc : Nat} {ls : List (Option Value)} {st : List Value} {w : ZW} {x y : Int64} (h : x = y) (k : ZG X pc ls (.long y :: st) w) : ZG X pc ls (.long x :: st) w := h ▸ k
def washF (m : Int64) (r : Int32) : Int64 := m * r.toInt64 / 1000
def laidF (m : Int64) (r : Int32) : Int64 := (m - washF m r) / 1000
def leftF (m : Int64) (r : Int32) : Int64 := m - washF m r - laidF m r
def goF (n f : Int64) : Int64 := n * f / 100352000
/-- what box bx's turn at wall w adds at place q (9: outside) -/
def mW (nn st : Nat → Int64) (bx w q : Nat) : Int64 :=
  if zFROM.getD w 0 = bx then (if 0 < st w then (if q = bx then -(goF (nn bx) (st w)) else if q = zTO.getD w 0 then goF (nn bx) (st w) else 0) else 0)
  else if zTO.getD w 0 = bx then (if 0 < -(st w) then (if q = bx then -(goF (nn bx) (-(st w))) else if q = zFROM.getD w 0 then goF (nn bx) (-(st w)) else 0) else 0) else 0
def accW (nn st : Nat → Int64) (bx q k : Nat) (x : Int64) : Int64 := zfold (fun w s => s + mW nn st bx w q) k x
theorem accW_s (nn st : Nat → Int64) (bx q k : Nat) (x : Int64) : accW nn st bx q (k + 1) x = accW nn st bx q k x + mW nn st bx k q := rfl
def accM (nn st : Nat → Int64) (q k : Nat) : Int64 := zfold (fun bx s => accW nn st bx q 24 (s + if q = bx then nn bx else 0)) k 0
theorem accM_s (nn st : Nat → Int64) (q k : Nat) : accM nn st q (k + 1) = accW nn st k q 24 (accM nn st q k + if q = k then nn k else 0) := rfl
def accO (nn st : Nat → Int64) (k : Nat) (x : Int64) : Int64 := zfold (fun bx s => accW nn st bx 9 24 s) k x
theorem accO_s (nn st : Nat → Int64) (k : Nat) (x : Int64) : accO nn st (k + 1) x = accW nn st k 9 24 (accO nn st k x) := rfl
def accA (f : Nat → Int64) (k : Nat) (x : Int64) : Int64 := zfold (fun bx s => s + f bx) k x
theorem accA_s (f : Nat → Int64) (k : Nat) (x : Int64) : accA f (k + 1) x = accA f k x + f k := rfl
def wInv (nn st : Nat → Int64) (bx s k : Nat) (n0 t0 n t : Nat → Int64) : Prop := (∀ q, q < 9 → n q = accW nn st bx q k (n0 q)) ∧ ∀ p, t p = if p = 4 * s + 3 then accW nn st bx 9 k (t0 (4 * s + 3)) else t0 p
theorem wInv_0 (nn st : Nat → Int64) (bx s : Nat) (n0 t0 : Nat → Int64) : wInv nn st bx s 0 n0 t0 n0 t0 := by
  refine ⟨fun q _ => rfl, fun p => ?_⟩
  split
  · rename_i e
    rw [e]
    rfl
  · rfl
theorem wInv_none {nn st : Nat → Int64} {bx s k : Nat} {n0 t0 n t : Nat → Int64} (h : wInv nn st bx s k n0 t0 n t) (hz : ∀ q, q < 10 → mW nn st bx k q = 0) : wInv nn st bx s (k + 1) n0 t0 n t := by
  refine ⟨fun q hq => ?_, fun p => ?_⟩
  · rw [accW_s, hz q (by omega), Int64.add_zero]
    exact h.1 q hq
  · rw [accW_s, hz 9 (by omega), Int64.add_zero]
    exact h.2 p
theorem wInv_in {nn st : Nat → Int64} {bx s k to : Nat} {go : Int64} {n0 t0 n t : Nat → Int64} (h : wInv nn st bx s k n0 t0 n t) (hb : bx < 9) (ht : to < 9) (hne : to ≠ bx) (hm : ∀ q, mW nn st bx k q = if q = bx then -go else if q = to then go else 0) : wInv nn st bx s (k + 1) n0 t0 (vp_updL (vp_updL n bx (n bx - go)) to (vp_updL n bx (n bx - go) to + go)) t := by
  refine ⟨fun q hq => ?_, fun p => ?_⟩
  · rw [accW_s, hm q, ← h.1 q hq]
    by_cases e : q = to
    · subst e
      rw [pk_uLs, pk_uLn hne, if_neg hne, if_pos rfl]
    · rw [pk_uLn e]
      by_cases e2 : q = bx
      · subst e2
        rw [pk_uLs, if_pos rfl, Int64.sub_eq_add_neg]
      · rw [pk_uLn e2, if_neg e2, if_neg e, Int64.add_zero]
  · rw [accW_s, hm 9, if_neg (show ¬ 9 = bx by omega), if_neg (show ¬ 9 = to by omega), Int64.add_zero]
    exact h.2 p
theorem wInv_out {nn st : Nat → Int64} {bx s k : Nat} {go : Int64} {n0 t0 n t : Nat → Int64} (h : wInv nn st bx s k n0 t0 n t) (hb : bx < 9) (hm : ∀ q, mW nn st bx k q = if q = bx then -go else if q = 9 then go else 0) : wInv nn st bx s (k + 1) n0 t0 (vp_updL n bx (n bx - go)) (vp_updL t (4 * s + 3) (t (4 * s + 3) + go)) := by
  refine ⟨fun q hq => ?_, fun p => ?_⟩
  · rw [accW_s, hm q, ← h.1 q hq]
    by_cases e2 : q = bx
    · subst e2
      rw [pk_uLs, if_pos rfl, Int64.sub_eq_add_neg]
    · rw [pk_uLn e2, if_neg e2, if_neg (by omega), Int64.add_zero]
  · rw [accW_s, hm 9, if_neg (show ¬ 9 = bx by omega), if_pos (show 9 = 9 from rfl)]
    by_cases e : p = 4 * s + 3
    · subst e
      rw [pk_uLs, h.2, if_pos rfl, if_pos rfl]
    · rw [pk_uLn e, h.2 p, if_neg e, if_neg e]
theorem mW_F {nn st : Nat → Int64} {bx w : Nat} (h : zFROM.getD w 0 = bx) (hp : 0 < st w) (q : Nat) : mW nn st bx w q = if q = bx then -(goF (nn bx) (st w)) else if q = zTO.getD w 0 then goF (nn bx) (st w) else 0 := by
  unfold mW
  rw [if_pos h, if_pos hp]
theorem mW_F0 {nn st : Nat → Int64} {bx w : Nat} (h : zFROM.getD w 0 = bx) (hp : st w ≤ 0) (q : Nat) : mW nn st bx w q = 0 := by
  unfold mW
  rw [if_pos h, if_neg (Int64.not_lt.mpr hp)]
theorem mW_T {nn st : Nat → Int64} {bx w : Nat} (h : ¬ zFROM.getD w 0 = bx) (h2 : zTO.getD w 0 = bx) (hp : 0 < -(st w)) (q : Nat) : mW nn st bx w q = if q = bx then -(goF (nn bx) (-(st w))) else if q = zFROM.getD w 0 then goF (nn bx) (-(st w)) else 0 := by
  unfold mW
  rw [if_neg h, if_pos h2, if_pos hp]
theorem mW_T0 {nn st : Nat → Int64} {bx w : Nat} (h : ¬ zFROM.getD w 0 = bx) (h2 : zTO.getD w 0 = bx) (hp : -(st w) ≤ 0) (q : Nat) : mW nn st bx w q = 0 := by
  unfold mW
  rw [if_neg h, if_pos h2, if_neg (Int64.not_lt.mpr hp)]
theorem mW_no {nn st : Nat → Int64} {bx w : Nat} (h : ¬ zFROM.getD w 0 = bx) (h2 : ¬ zTO.getD w 0 = bx) (q : Nat) : mW nn st bx w q = 0 := by
  unfold mW
  rw [if_neg h, if_neg h2]
theorem zFT : ∀ k, k < 24 → zFROM.getD k 0 ≠ zTO.getD k 0 := by decide +kernel
set_option maxHeartbeats 4000000 in
set_option maxRecDepth 100000 in
theorem lp_cy_177 {X : ZX} {post : Option Value → ZW → Prop} (hX : ZOK X 6 cX6_carry 4) (hR : ZRet X none post) (a : Nat → Nat → Int32) (b : Nat → Nat → Int64) (c : Nat → Int32) (nn : Nat → Int64) (s : Nat) (hs : s < 3) (r : Int32) (g n0 t0 : Nat → Int64) (bx : Nat) (hbx : bx < 9) (K : ∀ n t, wInv nn (stillF (a 1) (b 3)) bx s 24 n0 t0 n t → ZG X 335 [some (.ref 0), some (.int (nI s)), some (.int r), none, some (.int (nI bx)), none, none, none, none, none, none, some (.long (nn bx)), none, none, none, none, none, none, none, none] [] (WM a (va_up (va_up (va_up b 9 g) 10 t) 11 n) c)) : ∀ (m k : Nat) (n t : Nat → Int64), k ≤ 24 → 24 < k + m → wInv nn (stillF (a 1) (b 3)) bx s k n0 t0 n t → ZG X 177 [some (.ref 0), some (.int (nI s)), some (.int r), none, some (.int (nI bx)), none, none, none, none, none, none, some (.long (nn bx)), none, some (.int (nI k)), none, none, none, none, none, none] [] (WM a (va_up (va_up (va_up b 9 g) 10 t) 11 n) c) := by
  intro m
  induction m with
  | zero => intro k n t z1 z2; omega
  | succ m ih =>
    intro k n t hk1 hk2 hI
    refine z_iload hX dX6_carry_177 rfl ?_
    refine z_bipush (v := nI 24) hX dX6_carry_179 rfl ?_
    first | with_reducible refine z_icmp_geN (tgt := 335) hX dX6_carry_181 (by decide) (by omega) (by omega) (fun c_181 => ?_) (fun c_181 => ?_) | refine z_icmp_ge (tgt := 335) hX dX6_carry_181 (by decide) (fun c_181 => ?_) (fun c_181 => ?_)
    · -- 181 t
      refine z_forget (ls' := [some (.ref 0), some (.int (nI s)), some (.int r), none, some (.int (nI bx)), none, none, none, none, none, none, some (.long (nn bx)), none, none, none, none, none, none, none, none]) ⟨rfl, rfl, rfl, rfl, rfl, trivial⟩ ?_
      have zk : k = 24 := by omega
      subst zk
      exact K n t hI
    · -- 181 f
      have hF := zFROM_le k
      have hT := zTO_le k
      have hFT := zFT k (by omega)
      refine z_iload hX dX6_carry_184 rfl ?_
      refine z_callS0 hX dX6_carry_186 ms_6_85 (c_X6_fromOf k (by omega) _) (by decide) rfl rfl (Nat.le_of_ble_eq_true rfl) (fun r w1 hp _ => ?_)
      obtain ⟨rfl, rfl⟩ := hp
      refine z_iload hX dX6_carry_189 rfl ?_
      first | with_reducible refine z_icmp_neN (tgt := 198) hX dX6_carry_191 (by decide) (by omega) (by omega) (fun c_191 => ?_) (fun c_191 => ?_) | refine z_icmp_ne (tgt := 198) hX dX6_carry_191 (by decide) (fun c_191 => ?_) (fun c_191 => ?_)
      · -- 191 t
        refine z_iconst (v := nI 0) hX dX6_carry_198 rfl ?_
        refine z_istore (ls' := [_, _, _, _, _, _, _, _, _, _, _, _, _, _, _, _, _, _, _, _]) hX dX6_carry_199 (Nat.le_of_ble_eq_true rfl) rfl ?_
        refine z_iload hX dX6_carry_201 rfl ?_
        refine z_if_ne (tgt := 219) hX dX6_carry_203 (by decide) (fun c => absurd c (by decide)) (fun _ => ?_)
        refine z_iload hX dX6_carry_206 rfl ?_
        refine z_callS0 hX dX6_carry_208 ms_6_89 (c_X6_toOf k (by omega) _) (by decide) rfl rfl (Nat.le_of_ble_eq_true rfl) (fun r w1 hp _ => ?_)
        obtain ⟨rfl, rfl⟩ := hp
        refine z_iload hX dX6_carry_211 rfl ?_
        first | with_reducible refine z_icmp_eqN (tgt := 219) hX dX6_carry_213 (by decide) (by omega) (by omega) (fun c_213 => ?_) (fun c_213 => ?_) | refine z_icmp_eq (tgt := 219) hX dX6_carry_213 (by decide) (fun c_213 => ?_) (fun c_213 => ?_)
        · -- 213 t
          refine z_iload hX dX6_carry_219 rfl ?_
          refine z_if_eq (tgt := 233) hX dX6_carry_221 (by decide) (fun _ => ?_) (fun c => absurd c (by decide))
          refine z_aload_n hX dX6_carry_233 rfl ?_
          refine z_iload hX dX6_carry_234 rfl ?_
          refine z_callV0 hX dX6_carry_236 mv_6_108 (c_X6_stillAt a (va_up (va_up (va_up b 9 g) 10 t) 11 n) c k (by omega)) (by decide) rfl rfl rfl rfl (Nat.le_of_ble_eq_true rfl) (fun r w1 hp _ => ?_)
          have hp : _ ∧ r = some (.long (stillF (a 1) (b 3) k)) := hp
          obtain ⟨rfl, rfl⟩ := hp
          refine z_lneg hX dX6_carry_239 ?_
          refine z_lstore (ls' := [_, _, _, _, _, _, _, _, _, _, _, _, _, _, _, _, _, _, _, _]) hX dX6_carry_240 (Nat.le_of_ble_eq_true rfl) rfl ?_
          refine z_lload hX dX6_carry_242 rfl ?_
          refine z_lconst (v := 0) hX dX6_carry_244 rfl ?_
          refine z_lcmp hX dX6_carry_245 ?_
          refine z_lif_le (tgt := 329) hX dX6_carry_246 (by decide) (fun c_246 => ?_) (fun c_246 => ?_)
          · -- 246 t
            first | refine z_iincN (b := 1) (ls' := [_, _, _, _, _, _, _, _, _, _, _, _, _, _, _, _, _, _, _, _]) hX dX6_carry_329 rfl rfl rfl ?_ | refine z_iinc (ls' := [_, _, _, _, _, _, _, _, _, _, _, _, _, _, _, _, _, _, _, _]) hX dX6_carry_329 rfl rfl ?_
            refine z_goto (tgt := 177) hX dX6_carry_332 (by decide) ?_
            refine z_forget (ls' := [some (.ref 0), some (.int (nI s)), some (.int r), none, some (.int (nI bx)), none, none, none, none, none, none, some (.long (nn bx)), none, some (.int (nI (k + 1))), none, none, none, none, none, none]) ⟨rfl, rfl, rfl, rfl, rfl, rfl, trivial⟩ ?_
            exact ih (k + 1) _ _ (by omega) (by omega) (wInv_none hI (fun q _ => mW_T0 c_191 c_213 c_246 q))
          · -- 246 f
            refine z_lload hX dX6_carry_249 rfl ?_
            refine z_lload hX dX6_carry_251 rfl ?_
            refine z_lmul hX dX6_carry_253 ?_
            refine z_ldc2 hX dX6_carry_254 k_6_129 ?_
            refine z_ldiv hX dX6_carry_257 (by decide) ?_
            refine z_lstore (ls' := [_, _, _, _, _, _, _, _, _, _, _, _, _, _, _, _, _, _, _, _]) hX dX6_carry_258 (Nat.le_of_ble_eq_true rfl) rfl ?_
            refine z_iload hX dX6_carry_260 rfl ?_
            refine z_if_eq (tgt := 273) hX dX6_carry_262 (by decide) (fun _ => ?_) (fun c => absurd c (by decide))
            refine z_iload hX dX6_carry_273 rfl ?_
            refine z_callS0 hX dX6_carry_275 ms_6_85 (c_X6_fromOf k (by omega) _) (by decide) rfl rfl (Nat.le_of_ble_eq_true rfl) (fun r w1 hp _ => ?_)
            obtain ⟨rfl, rfl⟩ := hp
            refine z_istore (ls' := [_, _, _, _, _, _, _, _, _, _, _, _, _, _, _, _, _, _, _, _]) hX dX6_carry_278 (Nat.le_of_ble_eq_true rfl) rfl ?_
            refine z_aload_n hX dX6_carry_280 rfl ?_
            refine z_get hX dX6_carry_281 f_6_41 rfl rfl ?_
            refine z_iload hX dX6_carry_284 rfl ?_
            first | refine z_dup2_2 hX dX6_carry_286 rfl ?_ | refine z_dup2_11 hX dX6_carry_286 rfl rfl ?_
            refine z_lald hX dX6_carry_287 rfl (by omega) (by decide) ?_
            refine z_lload hX dX6_carry_288 rfl ?_
            refine z_lsub hX dX6_carry_290 ?_
            refine z_last (w' := [_, _, _, _, _, _, _, _, _, _, _, _, _, _, _, _, _, _, _, _]) hX dX6_carry_291 rfl (by omega) (by decide) rfl ?_
            refine z_iload hX dX6_carry_292 rfl ?_
            refine z_bipush (v := nI 9) hX dX6_carry_294 rfl ?_
            first | with_reducible refine z_icmp_geN (tgt := 314) hX dX6_carry_296 (by decide) (by omega) (by omega) (fun c_296 => ?_) (fun c_296 => ?_) | refine z_icmp_ge (tgt := 314) hX dX6_carry_296 (by decide) (fun c_296 => ?_) (fun c_296 => ?_)
            · -- 296 t
              refine z_aload_n hX dX6_carry_314 rfl ?_
              refine z_get hX dX6_carry_315 f_6_38 rfl rfl ?_
              refine z_iconst (v := nI 4) hX dX6_carry_318 rfl ?_
              refine z_iload_n hX dX6_carry_319 rfl ?_
              first | with_reducible refine z_imulN hX dX6_carry_320 ?_ | refine z_imul hX dX6_carry_320 ?_
              refine z_iconst (v := nI 3) hX dX6_carry_321 rfl ?_
              first | with_reducible refine z_iaddN hX dX6_carry_322 ?_ | refine z_iadd hX dX6_carry_322 ?_
              first | refine z_dup2_2 hX dX6_carry_323 rfl ?_ | refine z_dup2_11 hX dX6_carry_323 rfl rfl ?_
              refine z_lald hX dX6_carry_324 rfl (by omega) (by decide) ?_
              refine z_lload hX dX6_carry_325 rfl ?_
              refine z_ladd hX dX6_carry_327 ?_
              refine z_last (w' := [_, _, _, _, _, _, _, _, _, _, _, _, _, _, _, _, _, _, _, _]) hX dX6_carry_328 rfl (by omega) (by decide) rfl ?_
              first | refine z_iincN (b := 1) (ls' := [_, _, _, _, _, _, _, _, _, _, _, _, _, _, _, _, _, _, _, _]) hX dX6_carry_329 rfl rfl rfl ?_ | refine z_iinc (ls' := [_, _, _, _, _, _, _, _, _, _, _, _, _, _, _, _, _, _, _, _]) hX dX6_carry_329 rfl rfl ?_
              refine z_goto (tgt := 177) hX dX6_carry_332 (by decide) ?_
              refine z_forget (ls' := [some (.ref 0), some (.int (nI s)), some (.int r), none, some (.int (nI bx)), none, none, none, none, none, none, some (.long (nn bx)), none, some (.int (nI (k + 1))), none, none, none, none, none, none]) ⟨rfl, rfl, rfl, rfl, rfl, rfl, trivial⟩ ?_
              exact ih (k + 1) _ _ (by omega) (by omega) (wInv_out hI hbx (fun q => by rw [mW_T c_191 c_213 c_246 q, show zFROM.getD k 0 = 9 by omega]; rfl))
            · -- 296 f
              refine z_aload_n hX dX6_carry_299 rfl ?_
              refine z_get hX dX6_carry_300 f_6_41 rfl rfl ?_
              refine z_iload hX dX6_carry_303 rfl ?_
              first | refine z_dup2_2 hX dX6_carry_305 rfl ?_ | refine z_dup2_11 hX dX6_carry_305 rfl rfl ?_
              refine z_lald hX dX6_carry_306 rfl (by omega) (by decide) ?_
              refine z_lload hX dX6_carry_307 rfl ?_
              refine z_ladd hX dX6_carry_309 ?_
              refine z_last (w' := [_, _, _, _, _, _, _, _, _, _, _, _, _, _, _, _, _, _, _, _]) hX dX6_carry_310 rfl (by omega) (by decide) rfl ?_
              refine z_goto (tgt := 329) hX dX6_carry_311 (by decide) ?_
              first | refine z_iincN (b := 1) (ls' := [_, _, _, _, _, _, _, _, _, _, _, _, _, _, _, _, _, _, _, _]) hX dX6_carry_329 rfl rfl rfl ?_ | refine z_iinc (ls' := [_, _, _, _, _, _, _, _, _, _, _, _, _, _, _, _, _, _, _, _]) hX dX6_carry_329 rfl rfl ?_
              refine z_goto (tgt := 177) hX dX6_carry_332 (by decide) ?_
              refine z_forget (ls' := [some (.ref 0), some (.int (nI s)), some (.int r), none, some (.int (nI bx)), none, none, none, none, none, none, some (.long (nn bx)), none, some (.int (nI (k + 1))), none, none, none, none, none, none]) ⟨rfl, rfl, rfl, rfl, rfl, rfl, trivial⟩ ?_
              exact ih (k + 1) _ _ (by omega) (by omega) (wInv_in hI hbx c_296 (by omega) (fun q => mW_T c_191 c_213 c_246 q))
        · -- 213 f
          refine z_goto (tgt := 329) hX dX6_carry_216 (by decide) ?_
          first | refine z_iincN (b := 1) (ls' := [_, _, _, _, _, _, _, _, _, _, _, _, _, _, _, _, _, _, _, _]) hX dX6_carry_329 rfl rfl rfl ?_ | refine z_iinc (ls' := [_, _, _, _, _, _, _, _, _, _, _, _, _, _, _, _, _, _, _, _]) hX dX6_carry_329 rfl rfl ?_
          refine z_goto (tgt := 177) hX dX6_carry_332 (by decide) ?_
          refine z_forget (ls' := [some (.ref 0), some (.int (nI s)), some (.int r), none, some (.int (nI bx)), none, none, none, none, none, none, some (.long (nn bx)), none, some (.int (nI (k + 1))), none, none, none, none, none, none]) ⟨rfl, rfl, rfl, rfl, rfl, rfl, trivial⟩ ?_
          exact ih (k + 1) _ _ (by omega) (by omega) (wInv_none hI (fun q _ => mW_no c_191 c_213 q))
      · -- 191 f
        refine z_iconst (v := nI 1) hX dX6_carry_194 rfl ?_
        refine z_goto (tgt := 199) hX dX6_carry_195 (by decide) ?_
        refine z_istore (ls' := [_, _, _, _, _, _, _, _, _, _, _, _, _, _, _, _, _, _, _, _]) hX dX6_carry_199 (Nat.le_of_ble_eq_true rfl) rfl ?_
        refine z_iload hX dX6_carry_201 rfl ?_
        refine z_if_ne (tgt := 219) hX dX6_carry_203 (by decide) (fun _ => ?_) (fun c => absurd c (by decide))
        refine z_iload hX dX6_carry_219 rfl ?_
        refine z_if_eq (tgt := 233) hX dX6_carry_221 (by decide) (fun c => absurd c (by decide)) (fun _ => ?_)
        refine z_aload_n hX dX6_carry_224 rfl ?_
        refine z_iload hX dX6_carry_225 rfl ?_
        refine z_callV0 hX dX6_carry_227 mv_6_108 (c_X6_stillAt a (va_up (va_up (va_up b 9 g) 10 t) 11 n) c k (by omega)) (by decide) rfl rfl rfl rfl (Nat.le_of_ble_eq_true rfl) (fun r w1 hp _ => ?_)
        have hp : _ ∧ r = some (.long (stillF (a 1) (b 3) k)) := hp
        obtain ⟨rfl, rfl⟩ := hp
        refine z_goto (tgt := 240) hX dX6_carry_230 (by decide) ?_
        refine z_lstore (ls' := [_, _, _, _, _, _, _, _, _, _, _, _, _, _, _, _, _, _, _, _]) hX dX6_carry_240 (Nat.le_of_ble_eq_true rfl) rfl ?_
        refine z_lload hX dX6_carry_242 rfl ?_
        refine z_lconst (v := 0) hX dX6_carry_244 rfl ?_
        refine z_lcmp hX dX6_carry_245 ?_
        refine z_lif_le (tgt := 329) hX dX6_carry_246 (by decide) (fun c_246 => ?_) (fun c_246 => ?_)
        · -- 246 t
          first | refine z_iincN (b := 1) (ls' := [_, _, _, _, _, _, _, _, _, _, _, _, _, _, _, _, _, _, _, _]) hX dX6_carry_329 rfl rfl rfl ?_ | refine z_iinc (ls' := [_, _, _, _, _, _, _, _, _, _, _, _, _, _, _, _, _, _, _, _]) hX dX6_carry_329 rfl rfl ?_
          refine z_goto (tgt := 177) hX dX6_carry_332 (by decide) ?_
          refine z_forget (ls' := [some (.ref 0), some (.int (nI s)), some (.int r), none, some (.int (nI bx)), none, none, none, none, none, none, some (.long (nn bx)), none, some (.int (nI (k + 1))), none, none, none, none, none, none]) ⟨rfl, rfl, rfl, rfl, rfl, rfl, trivial⟩ ?_
          exact ih (k + 1) _ _ (by omega) (by omega) (wInv_none hI (fun q _ => mW_F0 c_191 c_246 q))
        · -- 246 f
          refine z_lload hX dX6_carry_249 rfl ?_
          refine z_lload hX dX6_carry_251 rfl ?_
          refine z_lmul hX dX6_carry_253 ?_
          refine z_ldc2 hX dX6_carry_254 k_6_129 ?_
          refine z_ldiv hX dX6_carry_257 (by decide) ?_
          refine z_lstore (ls' := [_, _, _, _, _, _, _, _, _, _, _, _, _, _, _, _, _, _, _, _]) hX dX6_carry_258 (Nat.le_of_ble_eq_true rfl) rfl ?_
          refine z_iload hX dX6_carry_260 rfl ?_
          refine z_if_eq (tgt := 273) hX dX6_carry_262 (by decide) (fun c => absurd c (by decide)) (fun _ => ?_)
          refine z_iload hX dX6_carry_265 rfl ?_
          refine z_callS0 hX dX6_carry_267 ms_6_89 (c_X6_toOf k (by omega) _) (by decide) rfl rfl (Nat.le_of_ble_eq_true rfl) (fun r w1 hp _ => ?_)
          obtain ⟨rfl, rfl⟩ := hp
          refine z_goto (tgt := 278) hX dX6_carry_270 (by decide) ?_
          refine z_istore (ls' := [_, _, _, _, _, _, _, _, _, _, _, _, _, _, _, _, _, _, _, _]) hX dX6_carry_278 (Nat.le_of_ble_eq_true rfl) rfl ?_
          refine z_aload_n hX dX6_carry_280 rfl ?_
          refine z_get hX dX6_carry_281 f_6_41 rfl rfl ?_
          refine z_iload hX dX6_carry_284 rfl ?_
          first | refine z_dup2_2 hX dX6_carry_286 rfl ?_ | refine z_dup2_11 hX dX6_carry_286 rfl rfl ?_
          refine z_lald hX dX6_carry_287 rfl (by omega) (by decide) ?_
          refine z_lload hX dX6_carry_288 rfl ?_
          refine z_lsub hX dX6_carry_290 ?_
          refine z_last (w' := [_, _, _, _, _, _, _, _, _, _, _, _, _, _, _, _, _, _, _, _]) hX dX6_carry_291 rfl (by omega) (by decide) rfl ?_
          refine z_iload hX dX6_carry_292 rfl ?_
          refine z_bipush (v := nI 9) hX dX6_carry_294 rfl ?_
          first | with_reducible refine z_icmp_geN (tgt := 314) hX dX6_carry_296 (by decide) (by omega) (by omega) (fun c_296 => ?_) (fun c_296 => ?_) | refine z_icmp_ge (tgt := 314) hX dX6_carry_296 (by decide) (fun c_296 => ?_) (fun c_296 => ?_)
          · -- 296 t
            refine z_aload_n hX dX6_carry_314 rfl ?_
            refine z_get hX dX6_carry_315 f_6_38 rfl rfl ?_
            refine z_iconst (v := nI 4) hX dX6_carry_318 rfl ?_
            refine z_iload_n hX dX6_carry_319 rfl ?_
            first | with_reducible refine z_imulN hX dX6_carry_320 ?_ | refine z_imul hX dX6_carry_320 ?_
            refine z_iconst (v := nI 3) hX dX6_carry_321 rfl ?_
            first | with_reducible refine z_iaddN hX dX6_carry_322 ?_ | refine z_iadd hX dX6_carry_322 ?_
            first | refine z_dup2_2 hX dX6_carry_323 rfl ?_ | refine z_dup2_11 hX dX6_carry_323 rfl rfl ?_
            refine z_lald hX dX6_carry_324 rfl (by omega) (by decide) ?_
            refine z_lload hX dX6_carry_325 rfl ?_
            refine z_ladd hX dX6_carry_327 ?_
            refine z_last (w' := [_, _, _, _, _, _, _, _, _, _, _, _, _, _, _, _, _, _, _, _]) hX dX6_carry_328 rfl (by omega) (by decide) rfl ?_
            first | refine z_iincN (b := 1) (ls' := [_, _, _, _, _, _, _, _, _, _, _, _, _, _, _, _, _, _, _, _]) hX dX6_carry_329 rfl rfl rfl ?_ | refine z_iinc (ls' := [_, _, _, _, _, _, _, _, _, _, _, _, _, _, _, _, _, _, _, _]) hX dX6_carry_329 rfl rfl ?_
            refine z_goto (tgt := 177) hX dX6_carry_332 (by decide) ?_
            refine z_forget (ls' := [some (.ref 0), some (.int (nI s)), some (.int r), none, some (.int (nI bx)), none, none, none, none, none, none, some (.long (nn bx)), none, some (.int (nI (k + 1))), none, none, none, none, none, none]) ⟨rfl, rfl, rfl, rfl, rfl, rfl, trivial⟩ ?_
            exact ih (k + 1) _ _ (by omega) (by omega) (wInv_out hI hbx (fun q => by rw [mW_F c_191 c_246 q, show zTO.getD k 0 = 9 by omega]; rfl))
          · -- 296 f
            refine z_aload_n hX dX6_carry_299 rfl ?_
            refine z_get hX dX6_carry_300 f_6_41 rfl rfl ?_
            refine z_iload hX dX6_carry_303 rfl ?_
            first | refine z_dup2_2 hX dX6_carry_305 rfl ?_ | refine z_dup2_11 hX dX6_carry_305 rfl rfl ?_
            refine z_lald hX dX6_carry_306 rfl (by omega) (by decide) ?_
            refine z_lload hX dX6_carry_307 rfl ?_
            refine z_ladd hX dX6_carry_309 ?_
            refine z_last (w' := [_, _, _, _, _, _, _, _, _, _, _, _, _, _, _, _, _, _, _, _]) hX dX6_carry_310 rfl (by omega) (by decide) rfl ?_
            refine z_goto (tgt := 329) hX dX6_carry_311 (by decide) ?_
            first | refine z_iincN (b := 1) (ls' := [_, _, _, _, _, _, _, _, _, _, _, _, _, _, _, _, _, _, _, _]) hX dX6_carry_329 rfl rfl rfl ?_ | refine z_iinc (ls' := [_, _, _, _, _, _, _, _, _, _, _, _, _, _, _, _, _, _, _, _]) hX dX6_carry_329 rfl rfl ?_
            refine z_goto (tgt := 177) hX dX6_carry_332 (by decide) ?_
            refine z_forget (ls' := [some (.ref 0), some (.int (nI s)), some (.int r), none, some (.int (nI bx)), none, none, none, none, none, none, some (.long (nn bx)), none, some (.int (nI (k + 1))), none, none, none, none, none, none]) ⟨rfl, rfl, rfl, rfl, rfl, rfl, trivial⟩ ?_
            exact ih (k + 1) _ _ (by omega) (by omega) (wInv_in hI hbx c_296 (by omega) (fun q => mW_F c_191 c_246 q))
