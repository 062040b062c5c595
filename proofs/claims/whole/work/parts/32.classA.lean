/-! ===== the class: JDK members, air, sheets ===== -/
theorem zc_introF {l : Launch} {y : MethodName} {B : ByteArray} {maxL : Nat} {ret : Option FieldType} {d oc : Nat} {av : List Value} {w : ZW} {post : Option Value → ZW → Prop} (hy : plainFor y = true) (hoc : y.cls = zcn oc) (hav : (zen av).length ≤ maxL) (body : ∀ X : ZX, ZOK X oc B d → ZRet X ret post → ZG X 0 (zent maxL av) [] w) : ZC l y B maxL ret d av w post := by
  intro D cy ad sz
  refine va_MetF (cc := B) (maxL := maxL) (ret := ret) hy rfl ?_
  intro p e s m args below meth c s₁ B0 hml hv
  obtain ⟨rfl, hsz, hP, hK, hI, hS⟩ := hv
  have hts := atoms_spec (ws := .code y B maxL ret :: zwd) B0.pre
  have hown : s.vm.findClass (zcn oc) = some m.cls := by rw [← hoc]; exact findClass_of_methodNamed B0.named
  subst hsz
  have hb := body (p, l, e, (headSpec (.code y B maxL ret :: zwd) (zrm d)).room, s, m, (av.map (zv ad)).toArray, below, meth, c, D, cy, ad, va_A (zcw cy ad w) s.heap.size, w.length, 0, 0, MQ below (ZQc D cy ad w.length (va_A (zcw cy ad w) s.heap.size) post) (av.map (zv ad)).toArray s 0 0 (va_A (zcw cy ad w) s.heap.size))
    ⟨B0.exec, B0.bytes, hown, fun w hw => hts w (List.mem_cons_of_mem _ hw), hK, hI, fun i hi => zA_in hi, hS, ⟨Nat.le_refl _, Nat.le_refl _⟩, ⟨Nat.zero_le _, Nat.zero_le _⟩, fun q h => Or.inr h⟩ ⟨B0.returns, B0.notSynchronized, rfl⟩
  rw [lg_entry_eq]
  exact hb s.heap [] _ rfl hP va_S.rf (by rw [hml]; exact zent_ok ad av maxL hav)
set_option maxHeartbeats 4000000 in
set_option maxRecDepth 100000 in
theorem c_J_abs (x : Int64) (w : ZW) : ∀ l, ZC l yJ9_abs_067f4 cJ9_abs_067f4 2 (some .long) 0 [.long x] w (fun r w' => w' = w ∧ r = some (.long (if 0 ≤ x then x else -x))) := by
  intro l
  refine zc_introF (oc := 7) (by decide +kernel) rfl (Nat.le_of_ble_eq_true rfl) ?_
  intro X hX hR
  refine z_norm (ls' := [_, _]) rfl rfl rfl ?_
  refine z_lload_n hX dJ9_abs_067f4_0 rfl ?_
  refine z_lconst (v := 0) hX dJ9_abs_067f4_1 rfl ?_
  refine z_lcmp hX dJ9_abs_067f4_2 ?_
  refine z_lif_ge (tgt := 11) hX dJ9_abs_067f4_3 (by decide) (fun c_3 => ?_) (fun c_3 => ?_)
  · -- 3 t
    refine z_lload_n hX dJ9_abs_067f4_11 rfl ?_
    refine z_lret hX hR dJ9_abs_067f4_12 ?_
    exact ⟨rfl, by rw [if_pos c_3]⟩
  · -- 3 f
    refine z_lload_n hX dJ9_abs_067f4_6 rfl ?_
    refine z_lneg hX dJ9_abs_067f4_7 ?_
    refine z_goto (tgt := 12) hX dJ9_abs_067f4_8 (by decide) ?_
    refine z_lret hX hR dJ9_abs_067f4_12 ?_
    exact ⟨rfl, by rw [if_neg (Int64.not_le.mpr c_3)]⟩
set_option maxHeartbeats 4000000 in
set_option maxRecDepth 100000 in
theorem c_J_max (x y : Int64) (w : ZW) : ∀ l, ZC l yJ9_max_f86c9 cJ9_max_f86c9 4 (some .long) 0 [.long x, .long y] w (fun r w' => w' = w ∧ r = some (.long (if y ≤ x then x else y))) := by
  intro l
  refine zc_introF (oc := 7) (by decide +kernel) rfl (Nat.le_of_ble_eq_true rfl) ?_
  intro X hX hR
  refine z_norm (ls' := [_, _, _, _]) rfl rfl rfl ?_
  refine z_lload_n hX dJ9_max_f86c9_0 rfl ?_
  refine z_lload_n hX dJ9_max_f86c9_1 rfl ?_
  refine z_lcmp hX dJ9_max_f86c9_2 ?_
  refine z_lif_lt (tgt := 10) hX dJ9_max_f86c9_3 (by decide) (fun c_3 => ?_) (fun c_3 => ?_)
  · -- 3 t
    refine z_lload_n hX dJ9_max_f86c9_10 rfl ?_
    refine z_lret hX hR dJ9_max_f86c9_11 ?_
    exact ⟨rfl, by rw [if_neg (Int64.not_le.mpr c_3)]⟩
  · -- 3 f
    refine z_lload_n hX dJ9_max_f86c9_6 rfl ?_
    refine z_goto (tgt := 11) hX dJ9_max_f86c9_7 (by decide) ?_
    refine z_lret hX hR dJ9_max_f86c9_11 ?_
    exact ⟨rfl, by rw [if_pos c_3]⟩
set_option maxHeartbeats 4000000 in
set_option maxRecDepth 100000 in
theorem c_J_min (x y : Nat) (hx : x < 2147483648) (hy : y < 2147483648) (w : ZW) : ∀ l, ZC l yJ9_min_7cf53 cJ9_min_7cf53 2 (some .int) 0 [.int (nI x), .int (nI y)] w (fun r w' => w' = w ∧ r = some (.int (nI (if x ≤ y then x else y)))) := by
  intro l
  refine zc_introF (oc := 7) (by decide +kernel) rfl (Nat.le_of_ble_eq_true rfl) ?_
  intro X hX hR
  refine z_norm (ls' := [_, _]) rfl rfl rfl ?_
  refine z_iload_n hX dJ9_min_7cf53_0 rfl ?_
  refine z_iload_n hX dJ9_min_7cf53_1 rfl ?_
  first | with_reducible refine z_icmp_gtN (tgt := 9) hX dJ9_min_7cf53_2 (by decide) (by omega) (by omega) (fun c_2 => ?_) (fun c_2 => ?_) | refine z_icmp_gt (tgt := 9) hX dJ9_min_7cf53_2 (by decide) (fun c_2 => ?_) (fun c_2 => ?_)
  · -- 2 t
    refine z_iload_n hX dJ9_min_7cf53_9 rfl ?_
    refine z_iret hX hR dJ9_min_7cf53_10 ?_
    exact ⟨rfl, by rw [if_neg (by omega)]⟩
  · -- 2 f
    refine z_iload_n hX dJ9_min_7cf53_5 rfl ?_
    refine z_goto (tgt := 10) hX dJ9_min_7cf53_6 (by decide) ?_
    refine z_iret hX hR dJ9_min_7cf53_10 ?_
    exact ⟨rfl, by rw [if_pos c_2]⟩
theorem zFALL_le (k : Nat) : zFALL.getD k 0 ≤ 84 := by
  by_cases h : k < 81
  · exact (by decide +kernel : ∀ k, k < 81 → zFALL.getD k 0 ≤ 84) k h
  · rw [List.getD_eq_getElem?_getD, List.getElem?_eq_none (by show 81 ≤ k; omega)]
    exact Nat.zero_le _
theorem nx_xor (a b : Nat) : nI a ^^^ nI b = nI (a ^^^ b) := by
  apply Int32.toBitVec_inj.1
  show BitVec.ofNat 32 a ^^^ BitVec.ofNat 32 b = BitVec.ofNat 32 (a ^^^ b)
  apply BitVec.eq_of_getLsbD_eq
  intro i hi
  simp [hi]
theorem zxor24 {x : Nat} (hx : x < 2147483648) : 0 ≤ nI x ^^^ nI 24 := by
  rw [nx_xor]
  exact nI_pos' (Nat.xor_lt_two_pow (n := 31) hx (by decide))
set_option maxHeartbeats 4000000 in
set_option maxRecDepth 100000 in
theorem c_J_fmod (x : Nat) (hx : x < 2147483648) (w : ZW) : ∀ l, ZC l yJ9_floorMod_7cf53 cJ9_floorMod_7cf53 3 (some .int) 0 [.int (nI x), .int (nI 24)] w (fun r w' => w' = w ∧ r = some (.int (nI (x % 24)))) := by
  intro l
  refine zc_introF (oc := 7) (by decide +kernel) rfl (Nat.le_of_ble_eq_true rfl) ?_
  intro X hX hR
  refine z_norm (ls' := [_, _, _]) rfl rfl rfl ?_
  refine z_iload_n hX dJ9_floorMod_7cf53_0 rfl ?_
  refine z_iload_n hX dJ9_floorMod_7cf53_1 rfl ?_
  first | with_reducible refine z_iremN hX dJ9_floorMod_7cf53_2 (by omega) (by decide) (by decide) ?_ | refine z_irem hX dJ9_floorMod_7cf53_2 (by decide) ?_
  refine z_istore_n (ls' := [_, _, _]) hX dJ9_floorMod_7cf53_3 (Nat.le_of_ble_eq_true rfl) rfl ?_
  refine z_iload_n hX dJ9_floorMod_7cf53_4 rfl ?_
  refine z_iload_n hX dJ9_floorMod_7cf53_5 rfl ?_
  refine z_ixor hX dJ9_floorMod_7cf53_6 ?_
  refine z_if_ge (tgt := 18) hX dJ9_floorMod_7cf53_7 (by decide) (fun c_7 => ?_) (fun c_7 => ?_)
  · -- 7 t
    refine z_iload_n hX dJ9_floorMod_7cf53_18 rfl ?_
    refine z_iret hX hR dJ9_floorMod_7cf53_19 ?_
    exact ⟨rfl, rfl⟩
  · -- 7 f
    exact absurd (zxor24 hx) c_7
set_option maxHeartbeats 4000000 in
set_option maxRecDepth 100000 in
theorem lp_fillL {X : ZX} {post : Option Value → ZW → Prop} (hX : ZOK X 8 cJ7_fill_d0a16 0) (hR : ZRet X none post) (N : Nat) (hN : N < 2147483648) (v : Int64) (hpost : ∀ f, (∀ q, q < N → f q = v) → post none [.inl (1, N, .inr f)]) : ∀ (n k : Nat) (f : Nat → Int64), k ≤ N → N < k + n → (∀ q, q < k → f q = v) → ZG X 6 [some (.ref 0), some (.long v), none, some (.int (nI k)), some (.int (nI N))] [] [.inl (1, N, .inr f)] := by
  intro n
  induction n with
  | zero => intro k f z1 z2; omega
  | succ n ih =>
    intro k f hk1 hk2 hf
    refine z_iload_n hX dJ7_fill_d0a16_6 rfl ?_
    refine z_iload hX dJ7_fill_d0a16_7 rfl ?_
    first | with_reducible refine z_icmp_geN (tgt := 22) hX dJ7_fill_d0a16_9 (by decide) (by omega) (by omega) (fun c_9 => ?_) (fun c_9 => ?_) | refine z_icmp_ge (tgt := 22) hX dJ7_fill_d0a16_9 (by decide) (fun c_9 => ?_) (fun c_9 => ?_)
    · -- 9 t
      refine z_vret hX hR dJ7_fill_d0a16_22 ?_
      exact hpost f (fun q hq => hf q (by omega))
    · -- 9 f
      refine z_aload_n hX dJ7_fill_d0a16_12 rfl ?_
      refine z_iload_n hX dJ7_fill_d0a16_13 rfl ?_
      refine z_lload_n hX dJ7_fill_d0a16_14 rfl ?_
      refine z_last (w' := [_]) hX dJ7_fill_d0a16_15 rfl c_9 hN rfl ?_
      first | refine z_iincN (b := 1) (ls' := [_, _, _, _, _]) hX dJ7_fill_d0a16_16 rfl rfl rfl ?_ | refine z_iinc (ls' := [_, _, _, _, _]) hX dJ7_fill_d0a16_16 rfl rfl ?_
      refine z_goto (tgt := 6) hX dJ7_fill_d0a16_19 (by decide) ?_
      refine ih (k + 1) (vp_updL f k v) (by omega) (by omega) (fun q hq => ?_)
      by_cases e : q = k
      · rw [e, pk_uLs]
      · rw [pk_uLn e]
        exact hf q (by omega)
set_option maxHeartbeats 4000000 in
set_option maxRecDepth 100000 in
theorem c_J_fillL (N : Nat) (hN : N < 2147483648) (v : Int64) (f : Nat → Int64) : ∀ l, ZC l yJ7_fill_d0a16 cJ7_fill_d0a16 5 none 0 [.ref 0, .long v] [.inl (1, N, .inr f)] (fun r w' => r = none ∧ ∃ f1, w' = [.inl (1, N, .inr f1)] ∧ ∀ q, q < N → f1 q = v) := by
  intro l
  refine zc_intro (oc := 8) (by decide +kernel) rfl (Nat.le_of_ble_eq_true rfl) ?_
  intro X hX hR
  refine z_norm (ls' := [_, _, _, _, _]) rfl rfl rfl ?_
  refine z_iconst (v := nI 0) hX dJ7_fill_d0a16_0 rfl ?_
  refine z_istore_n (ls' := [_, _, _, _, _]) hX dJ7_fill_d0a16_1 (Nat.le_of_ble_eq_true rfl) rfl ?_
  refine z_aload_n hX dJ7_fill_d0a16_2 rfl ?_
  refine z_ilen hX dJ7_fill_d0a16_3 rfl (by decide) ?_
  refine z_istore (ls' := [_, _, _, _, _]) hX dJ7_fill_d0a16_4 (Nat.le_of_ble_eq_true rfl) rfl ?_
  exact lp_fillL hX hR N hN v (fun f1 e => ⟨rfl, f1, rfl, e⟩) (N + 1) 0 f (by omega) (by omega) (fun q hq => by omega)
set_option maxHeartbeats 4000000 in
set_option maxRecDepth 100000 in
theorem lp_fillI {X : ZX} {post : Option Value → ZW → Prop} (hX : ZOK X 8 cJ7_fill_53178 0) (hR : ZRet X none post) (N : Nat) (hN : N < 2147483648) (v : Int32) (hpost : ∀ f, (∀ q, q < N → f q = v) → post none [.inl (0, N, .inl f)]) : ∀ (n k : Nat) (f : Nat → Int32), k ≤ N → N < k + n → (∀ q, q < k → f q = v) → ZG X 5 [some (.ref 0), some (.int v), some (.int (nI k)), some (.int (nI N))] [] [.inl (0, N, .inl f)] := by
  intro n
  induction n with
  | zero => intro k f z1 z2; omega
  | succ n ih =>
    intro k f hk1 hk2 hf
    refine z_iload_n hX dJ7_fill_53178_5 rfl ?_
    refine z_iload_n hX dJ7_fill_53178_6 rfl ?_
    first | with_reducible refine z_icmp_geN (tgt := 20) hX dJ7_fill_53178_7 (by decide) (by omega) (by omega) (fun c_7 => ?_) (fun c_7 => ?_) | refine z_icmp_ge (tgt := 20) hX dJ7_fill_53178_7 (by decide) (fun c_7 => ?_) (fun c_7 => ?_)
    · -- 7 t
      refine z_vret hX hR dJ7_fill_53178_20 ?_
      exact hpost f (fun q hq => hf q (by omega))
    · -- 7 f
      refine z_aload_n hX dJ7_fill_53178_10 rfl ?_
      refine z_iload_n hX dJ7_fill_53178_11 rfl ?_
      refine z_iload_n hX dJ7_fill_53178_12 rfl ?_
      refine z_iast (w' := [_]) hX dJ7_fill_53178_13 rfl c_7 hN rfl ?_
      first | refine z_iincN (b := 1) (ls' := [_, _, _, _]) hX dJ7_fill_53178_14 rfl rfl rfl ?_ | refine z_iinc (ls' := [_, _, _, _]) hX dJ7_fill_53178_14 rfl rfl ?_
      refine z_goto (tgt := 5) hX dJ7_fill_53178_17 (by decide) ?_
      refine ih (k + 1) (upd f k v) (by omega) (by omega) (fun q hq => ?_)
      by_cases e : q = k
      · rw [e, pk_us]
      · rw [pk_un e]
        exact hf q (by omega)
set_option maxHeartbeats 4000000 in
set_option maxRecDepth 100000 in
theorem c_J_fillI (N : Nat) (hN : N < 2147483648) (v : Int32) (f : Nat → Int32) : ∀ l, ZC l yJ7_fill_53178 cJ7_fill_53178 4 none 0 [.ref 0, .int v] [.inl (0, N, .inl f)] (fun r w' => r = none ∧ ∃ f1, w' = [.inl (0, N, .inl f1)] ∧ ∀ q, q < N → f1 q = v) := by
  intro l
  refine zc_intro (oc := 8) (by decide +kernel) rfl (Nat.le_of_ble_eq_true rfl) ?_
  intro X hX hR
  refine z_norm (ls' := [_, _, _, _]) rfl rfl rfl ?_
  refine z_iconst (v := nI 0) hX dJ7_fill_53178_0 rfl ?_
  refine z_istore_n (ls' := [_, _, _, _]) hX dJ7_fill_53178_1 (Nat.le_of_ble_eq_true rfl) rfl ?_
  refine z_aload_n hX dJ7_fill_53178_2 rfl ?_
  refine z_ilen hX dJ7_fill_53178_3 rfl (by decide) ?_
  refine z_istore_n (ls' := [_, _, _, _]) hX dJ7_fill_53178_4 (Nat.le_of_ble_eq_true rfl) rfl ?_
  exact lp_fillI hX hR N hN v (fun f1 e => ⟨rfl, f1, rfl, e⟩) (N + 1) 0 f (by omega) (by omega) (fun q hq => by omega)
theorem zJ_lt {x : Int32} {n : Nat} (h1 : ¬ x < 0) (h2 : ¬ nI n ≤ x) (hn : n < 2147483648) : zJ x n := by
  rw [zJ_iff hn]
  rw [Int32.lt_iff_toInt_lt] at h1
  rw [Int32.le_iff_toInt_le, nI_toInt hn] at h2
  have h3 : (0 : Int32).toInt = 0 := rfl
  omega
theorem zJ_ge {x : Int32} {n : Nat} (hn : n < 2147483648) (h : nI n ≤ x) : ¬ zJ x n := by
  rw [zJ_iff hn]
  rw [Int32.le_iff_toInt_le, nI_toInt hn] at h
  omega
theorem zJ_neg {x : Int32} {n : Nat} (hn : n < 2147483648) (h : x < 0) : ¬ zJ x n := by
  rw [zJ_iff hn]
  rw [Int32.lt_iff_toInt_lt] at h
  have h3 : (0 : Int32).toInt = 0 := rfl
  omega
theorem zJ_2 {x : Int32} (h1 : ¬ x = 0) (h2 : ¬ x = nI 1) : ¬ zJ x 2 := by
  rintro ⟨j, hj, rfl⟩
  rcases (show j = 0 ∨ j = 1 by omega) with e | e
  · exact h1 (by rw [e]; rfl)
  · exact h2 (by rw [e])
set_option maxHeartbeats 4000000 in
set_option maxRecDepth 100000 in
theorem c_X5_isBelow (x : Int32) (n : Nat) (hn : n < 2147483648) (w : ZW) : ∀ l, ZC l yX5_isBelow cX5_isBelow 2 (some .boolean) 0 [.int x, .int (nI n)] w (fun r w' => w' = w ∧ ((zJ x n ∧ r = some (.int (nI 1))) ∨ (¬ zJ x n ∧ r = some (.int (nI 0))))) := by
  intro l
  refine zc_intro (oc := 5) (by decide +kernel) rfl (Nat.le_of_ble_eq_true rfl) ?_
  intro X hX hR
  refine z_norm (ls' := [_, _]) rfl rfl rfl ?_
  refine z_iload_n hX dX5_isBelow_0 rfl ?_
  refine z_if_lt (tgt := 13) hX dX5_isBelow_1 (by decide) (fun c_1 => ?_) (fun c_1 => ?_)
  · -- 1 t
    refine z_iconst (v := nI 0) hX dX5_isBelow_13 rfl ?_
    refine z_zret hX hR dX5_isBelow_14 (by first | exact Or.inl rfl | exact Or.inr rfl | assumption) ?_
    exact ⟨rfl, Or.inr ⟨zJ_neg hn c_1, rfl⟩⟩
  · -- 1 f
    refine z_iload_n hX dX5_isBelow_4 rfl ?_
    refine z_iload_n hX dX5_isBelow_5 rfl ?_
    first | with_reducible refine z_icmp_geN (tgt := 13) hX dX5_isBelow_6 (by decide) (by omega) (by omega) (fun c_6 => ?_) (fun c_6 => ?_) | refine z_icmp_ge (tgt := 13) hX dX5_isBelow_6 (by decide) (fun c_6 => ?_) (fun c_6 => ?_)
    · -- 6 t
      refine z_iconst (v := nI 0) hX dX5_isBelow_13 rfl ?_
      refine z_zret hX hR dX5_isBelow_14 (by first | exact Or.inl rfl | exact Or.inr rfl | assumption) ?_
      exact ⟨rfl, Or.inr ⟨zJ_ge hn c_6, rfl⟩⟩
    · -- 6 f
      refine z_iconst (v := nI 1) hX dX5_isBelow_9 rfl ?_
      refine z_goto (tgt := 14) hX dX5_isBelow_10 (by decide) ?_
      refine z_zret hX hR dX5_isBelow_14 (by first | exact Or.inl rfl | exact Or.inr rfl | assumption) ?_
      exact ⟨rfl, Or.inl ⟨zJ_lt c_1 c_6 hn, rfl⟩⟩
set_option maxHeartbeats 4000000 in
set_option maxRecDepth 100000 in
theorem c_X5_isLane (x : Int32) (w : ZW) : ∀ l, ZC l yX5_isLane cX5_isLane 1 (some .boolean) 0 [.int x] w (fun r w' => w' = w ∧ ((zJ x 2 ∧ r = some (.int (nI 1))) ∨ (¬ zJ x 2 ∧ r = some (.int (nI 0))))) := by
  intro l
  refine zc_intro (oc := 5) (by decide +kernel) rfl (Nat.le_of_ble_eq_true rfl) ?_
  intro X hX hR
  refine z_norm (ls' := [_]) rfl rfl rfl ?_
  refine z_iload_n hX dX5_isLane_0 rfl ?_
  refine z_if_eq (tgt := 9) hX dX5_isLane_1 (by decide) (fun c_1 => ?_) (fun c_1 => ?_)
  · -- 1 t
    refine z_iconst (v := nI 1) hX dX5_isLane_9 rfl ?_
    refine z_goto (tgt := 14) hX dX5_isLane_10 (by decide) ?_
    refine z_zret hX hR dX5_isLane_14 (by first | exact Or.inl rfl | exact Or.inr rfl | assumption) ?_
    exact ⟨rfl, Or.inl ⟨⟨0, by omega, c_1⟩, rfl⟩⟩
  · -- 1 f
    refine z_iload_n hX dX5_isLane_4 rfl ?_
    refine z_iconst (v := nI 1) hX dX5_isLane_5 rfl ?_
    first | with_reducible refine z_icmp_neN (tgt := 13) hX dX5_isLane_6 (by decide) (by omega) (by omega) (fun c_6 => ?_) (fun c_6 => ?_) | refine z_icmp_ne (tgt := 13) hX dX5_isLane_6 (by decide) (fun c_6 => ?_) (fun c_6 => ?_)
    · -- 6 t
      refine z_iconst (v := nI 0) hX dX5_isLane_13 rfl ?_
      refine z_zret hX hR dX5_isLane_14 (by first | exact Or.inl rfl | exact Or.inr rfl | assumption) ?_
      exact ⟨rfl, Or.inr ⟨zJ_2 c_1 c_6, rfl⟩⟩
    · -- 6 f
      refine z_iconst (v := nI 1) hX dX5_isLane_9 rfl ?_
      refine z_goto (tgt := 14) hX dX5_isLane_10 (by decide) ?_
      refine z_zret hX hR dX5_isLane_14 (by first | exact Or.inl rfl | exact Or.inr rfl | assumption) ?_
      exact ⟨rfl, Or.inl ⟨⟨1, by omega, c_6⟩, rfl⟩⟩
def WA (wn : Nat → Int32) (h nt : Nat → Int64) : ZW := [.inr (0, [.ref 1, .ref 2, .ref 3]), .inl (0, 24, .inl wn), .inl (1, 10, .inr h), .inl (1, 24, .inr nt)]
def surF (wn : Nat → Int32) (bx : Nat) : Int32 := wn (bx + bx / 3 + 1) - wn (bx + bx / 3) + wn (12 + bx + 3) - wn (12 + bx)
set_option maxHeartbeats 4000000 in
set_option maxRecDepth 100000 in
theorem c_X0_surplus (wn : Nat → Int32) (h nt : Nat → Int64) (bx : Nat) (hb : bx < 9) : ∀ l, ZC l yX0_surplus cX0_surplus 5 (some .int) 0 [.ref 0, .int (nI bx)] (WA wn h nt) (fun r w' => w' = WA wn h nt ∧ r = some (.int (surF wn bx))) := by
  intro l
  refine zc_intro (oc := 0) (by decide +kernel) rfl (Nat.le_of_ble_eq_true rfl) ?_
  intro X hX hR
  refine z_norm (ls' := [_, _, _, _, _]) rfl rfl rfl ?_
  refine z_iload_n hX dX0_surplus_0 rfl ?_
  refine z_iload_n hX dX0_surplus_1 rfl ?_
  refine z_iconst (v := nI 3) hX dX0_surplus_2 rfl ?_
  first | with_reducible refine z_idivN hX dX0_surplus_3 (by omega) (by decide) (by decide) ?_ | refine z_idiv hX dX0_surplus_3 (by decide) ?_
  first | with_reducible refine z_iaddN hX dX0_surplus_4 ?_ | refine z_iadd hX dX0_surplus_4 ?_
  refine z_istore_n (ls' := [_, _, _, _, _]) hX dX0_surplus_5 (Nat.le_of_ble_eq_true rfl) rfl ?_
  refine z_bipush (v := nI 12) hX dX0_surplus_6 rfl ?_
  refine z_iload_n hX dX0_surplus_8 rfl ?_
  first | with_reducible refine z_iaddN hX dX0_surplus_9 ?_ | refine z_iadd hX dX0_surplus_9 ?_
  refine z_istore_n (ls' := [_, _, _, _, _]) hX dX0_surplus_10 (Nat.le_of_ble_eq_true rfl) rfl ?_
  refine z_iload_n hX dX0_surplus_11 rfl ?_
  refine z_iconst (v := nI 3) hX dX0_surplus_12 rfl ?_
  first | with_reducible refine z_iaddN hX dX0_surplus_13 ?_ | refine z_iadd hX dX0_surplus_13 ?_
  refine z_istore (ls' := [_, _, _, _, _]) hX dX0_surplus_14 (Nat.le_of_ble_eq_true rfl) rfl ?_
  refine z_aload_n hX dX0_surplus_16 rfl ?_
  refine z_get hX dX0_surplus_17 f_0_9 rfl rfl ?_
  refine z_iload_n hX dX0_surplus_20 rfl ?_
  refine z_iconst (v := nI 1) hX dX0_surplus_21 rfl ?_
  first | with_reducible refine z_iaddN hX dX0_surplus_22 ?_ | refine z_iadd hX dX0_surplus_22 ?_
  first | refine z_iald hX dX0_surplus_23 rfl (by omega) (by decide) ?_ | refine z_stld (nm := "FROM") (xs := zFROM) hX dX0_surplus_23 (fun _ _ _ _ h => h.1) (by show _ < 24; omega) (by decide) ?_ | refine z_stld (nm := "TO") (xs := zTO) hX dX0_surplus_23 (fun _ _ _ _ h => h.2.1) (by show _ < 24; omega) (by decide) ?_ | refine z_stld (nm := "FALL") (xs := zFALL) hX dX0_surplus_23 (fun _ _ _ _ h => h.2.2.1) (by show _ < 81; omega) (by decide) ?_
  refine z_aload_n hX dX0_surplus_24 rfl ?_
  refine z_get hX dX0_surplus_25 f_0_9 rfl rfl ?_
  refine z_iload_n hX dX0_surplus_28 rfl ?_
  first | refine z_iald hX dX0_surplus_29 rfl (by omega) (by decide) ?_ | refine z_stld (nm := "FROM") (xs := zFROM) hX dX0_surplus_29 (fun _ _ _ _ h => h.1) (by show _ < 24; omega) (by decide) ?_ | refine z_stld (nm := "TO") (xs := zTO) hX dX0_surplus_29 (fun _ _ _ _ h => h.2.1) (by show _ < 24; omega) (by decide) ?_ | refine z_stld (nm := "FALL") (xs := zFALL) hX dX0_surplus_29 (fun _ _ _ _ h => h.2.2.1) (by show _ < 81; omega) (by decide) ?_
  first | with_reducible refine z_isubN hX dX0_surplus_30 (by omega) ?_ | refine z_isub hX dX0_surplus_30 ?_
  refine z_aload_n hX dX0_surplus_31 rfl ?_
  refine z_get hX dX0_surplus_32 f_0_9 rfl rfl ?_
  refine z_iload hX dX0_surplus_35 rfl ?_
  first | refine z_iald hX dX0_surplus_37 rfl (by omega) (by decide) ?_ | refine z_stld (nm := "FROM") (xs := zFROM) hX dX0_surplus_37 (fun _ _ _ _ h => h.1) (by show _ < 24; omega) (by decide) ?_ | refine z_stld (nm := "TO") (xs := zTO) hX dX0_surplus_37 (fun _ _ _ _ h => h.2.1) (by show _ < 24; omega) (by decide) ?_ | refine z_stld (nm := "FALL") (xs := zFALL) hX dX0_surplus_37 (fun _ _ _ _ h => h.2.2.1) (by show _ < 81; omega) (by decide) ?_
  first | with_reducible refine z_iaddN hX dX0_surplus_38 ?_ | refine z_iadd hX dX0_surplus_38 ?_
  refine z_aload_n hX dX0_surplus_39 rfl ?_
  refine z_get hX dX0_surplus_40 f_0_9 rfl rfl ?_
  refine z_iload_n hX dX0_surplus_43 rfl ?_
  first | refine z_iald hX dX0_surplus_44 rfl (by omega) (by decide) ?_ | refine z_stld (nm := "FROM") (xs := zFROM) hX dX0_surplus_44 (fun _ _ _ _ h => h.1) (by show _ < 24; omega) (by decide) ?_ | refine z_stld (nm := "TO") (xs := zTO) hX dX0_surplus_44 (fun _ _ _ _ h => h.2.1) (by show _ < 24; omega) (by decide) ?_ | refine z_stld (nm := "FALL") (xs := zFALL) hX dX0_surplus_44 (fun _ _ _ _ h => h.2.2.1) (by show _ < 81; omega) (by decide) ?_
  first | with_reducible refine z_isubN hX dX0_surplus_45 (by omega) ?_ | refine z_isub hX dX0_surplus_45 ?_
  refine z_iret hX hR dX0_surplus_46 ?_
  exact ⟨rfl, rfl⟩
set_option maxHeartbeats 4000000 in
set_option maxRecDepth 100000 in
theorem c_X0_changeAt (wn : Nat → Int32) (h nt : Nat → Int64) (k : Nat) (hk : k < 24) : ∀ l, ZC l yX0_changeAt cX0_changeAt 2 (some .long) 0 [.ref 0, .int (nI k)] (WA wn h nt) (fun r w' => w' = WA wn h nt ∧ r = some (.long (h (zFROM.getD k 0) - h (zTO.getD k 0)))) := by
  intro l
  refine zc_intro (oc := 0) (by decide +kernel) rfl (Nat.le_of_ble_eq_true rfl) ?_
  intro X hX hR
  refine z_norm (ls' := [_, _]) rfl rfl rfl ?_
  have hF := zFROM_le k
  have hT := zTO_le k
  refine z_aload_n hX dX0_changeAt_0 rfl ?_
  refine z_get hX dX0_changeAt_1 f_0_15 rfl rfl ?_
  refine z_stat (nm := "FROM") (xs := zFROM) (k := 1000) hX dX0_changeAt_4 (fun _ _ _ _ h => ⟨h.1, h.2.2.2.2.1⟩) ?_
  refine z_iload_n hX dX0_changeAt_7 rfl ?_
  first | refine z_iald hX dX0_changeAt_8 rfl (by omega) (by decide) ?_ | refine z_stld (nm := "FROM") (xs := zFROM) hX dX0_changeAt_8 (fun _ _ _ _ h => h.1) (by show _ < 24; omega) (by decide) ?_ | refine z_stld (nm := "TO") (xs := zTO) hX dX0_changeAt_8 (fun _ _ _ _ h => h.2.1) (by show _ < 24; omega) (by decide) ?_ | refine z_stld (nm := "FALL") (xs := zFALL) hX dX0_changeAt_8 (fun _ _ _ _ h => h.2.2.1) (by show _ < 81; omega) (by decide) ?_
  refine z_lald hX dX0_changeAt_9 rfl (by omega) (by decide) ?_
  refine z_aload_n hX dX0_changeAt_10 rfl ?_
  refine z_get hX dX0_changeAt_11 f_0_15 rfl rfl ?_
  refine z_stat (nm := "TO") (xs := zTO) (k := 1001) hX dX0_changeAt_14 (fun _ _ _ _ h => ⟨h.2.1, h.2.2.2.2.2.1⟩) ?_
  refine z_iload_n hX dX0_changeAt_17 rfl ?_
  first | refine z_iald hX dX0_changeAt_18 rfl (by omega) (by decide) ?_ | refine z_stld (nm := "FROM") (xs := zFROM) hX dX0_changeAt_18 (fun _ _ _ _ h => h.1) (by show _ < 24; omega) (by decide) ?_ | refine z_stld (nm := "TO") (xs := zTO) hX dX0_changeAt_18 (fun _ _ _ _ h => h.2.1) (by show _ < 24; omega) (by decide) ?_ | refine z_stld (nm := "FALL") (xs := zFALL) hX dX0_changeAt_18 (fun _ _ _ _ h => h.2.2.1) (by show _ < 81; omega) (by decide) ?_
  refine z_lald hX dX0_changeAt_19 rfl (by omega) (by decide) ?_
  refine z_lsub hX dX0_changeAt_20 ?_
  refine z_lret hX hR dX0_changeAt_21 ?_
  exact ⟨rfl, rfl⟩
set_option maxHeartbeats 4000000 in
set_option maxRecDepth 100000 in
theorem lp_sq_4 {X : ZX} {post : Option Value → ZW → Prop} (hX : ZOK X 0 cX0_squaresOfChanges 1) (hR : ZRet X (some .long) post) (wn : Nat → Int32) (h nt : Nat → Int64) (hpost : post (some (.long (chF h 24))) (WA wn h nt)) : ∀ (n k : Nat), k ≤ 24 → 24 < k + n → ZG X 4 [some (.ref 0), some (.long (chF h k)), none, some (.int (nI k))] [] (WA wn h nt) := by
  intro n
  induction n with
  | zero => intro k z1 z2; omega
  | succ n ih =>
    intro k hk1 hk2
    refine z_iload_n hX dX0_squaresOfChanges_4 rfl ?_
    refine z_bipush (v := nI 24) hX dX0_squaresOfChanges_5 rfl ?_
    first | with_reducible refine z_icmp_geN (tgt := 30) hX dX0_squaresOfChanges_7 (by decide) (by omega) (by omega) (fun c_7 => ?_) (fun c_7 => ?_) | refine z_icmp_ge (tgt := 30) hX dX0_squaresOfChanges_7 (by decide) (fun c_7 => ?_) (fun c_7 => ?_)
    · -- 7 t
      have zk : k = 24 := by omega
      subst zk
      refine z_lload_n hX dX0_squaresOfChanges_30 rfl ?_
      refine z_lret hX hR dX0_squaresOfChanges_31 ?_
      exact hpost
    · -- 7 f
      refine z_lload_n hX dX0_squaresOfChanges_10 rfl ?_
      refine z_aload_n hX dX0_squaresOfChanges_11 rfl ?_
      refine z_iload_n hX dX0_squaresOfChanges_12 rfl ?_
      refine z_callV0 hX dX0_squaresOfChanges_13 mv_0_39 (c_X0_changeAt wn h nt k (by omega)) (by decide) rfl rfl rfl rfl (Nat.le_of_ble_eq_true rfl) (fun r w1 hp _ => ?_)
      obtain ⟨rfl, rfl⟩ := hp
      refine z_aload_n hX dX0_squaresOfChanges_16 rfl ?_
      refine z_iload_n hX dX0_squaresOfChanges_17 rfl ?_
      refine z_callV0 hX dX0_squaresOfChanges_18 mv_0_39 (c_X0_changeAt wn h nt k (by omega)) (by decide) rfl rfl rfl rfl (Nat.le_of_ble_eq_true rfl) (fun r w1 hp _ => ?_)
      obtain ⟨rfl, rfl⟩ := hp
      refine z_lmul hX dX0_squaresOfChanges_21 ?_
      refine z_ladd hX dX0_squaresOfChanges_22 ?_
      refine z_lstore_n (ls' := [_, _, _, _]) hX dX0_squaresOfChanges_23 (Nat.le_of_ble_eq_true rfl) rfl ?_
      first | refine z_iincN (b := 1) (ls' := [_, _, _, _]) hX dX0_squaresOfChanges_24 rfl rfl rfl ?_ | refine z_iinc (ls' := [_, _, _, _]) hX dX0_squaresOfChanges_24 rfl rfl ?_
      refine z_goto (tgt := 4) hX dX0_squaresOfChanges_27 (by decide) ?_
      exact ih (k + 1) (by omega) (by omega)
set_option maxHeartbeats 4000000 in
set_option maxRecDepth 100000 in
theorem c_X0_squares (wn : Nat → Int32) (h nt : Nat → Int64) : ∀ l, ZC l yX0_squaresOfChanges cX0_squaresOfChanges 4 (some .long) 1 [.ref 0] (WA wn h nt) (fun r w' => w' = WA wn h nt ∧ r = some (.long (chF h 24))) := by
  intro l
  refine zc_intro (oc := 0) (by decide +kernel) rfl (Nat.le_of_ble_eq_true rfl) ?_
  intro X hX hR
  refine z_norm (ls' := [_, _, _, _]) rfl rfl rfl ?_
  refine z_lconst (v := 0) hX dX0_squaresOfChanges_0 rfl ?_
  refine z_lstore_n (ls' := [_, _, _, _]) hX dX0_squaresOfChanges_1 (Nat.le_of_ble_eq_true rfl) rfl ?_
  refine z_iconst (v := nI 0) hX dX0_squaresOfChanges_2 rfl ?_
  refine z_istore_n (ls' := [_, _, _, _]) hX dX0_squaresOfChanges_3 (Nat.le_of_ble_eq_true rfl) rfl ?_
  exact lp_sq_4 hX hR wn h nt ⟨rfl, rfl⟩ 25 0 (by omega) (by omega)
set_option maxHeartbeats 4000000 in
set_option maxRecDepth 100000 in
theorem lp_set_75 {X : ZX} {post : Option Value → ZW → Prop} (hX : ZOK X 0 cX0_settle 1) (hR : ZRet X none post) (wn : Nat → Int32) (h nt0 : Nat → Int64) (hpost : ∀ nt, (∀ q, nt q = if q < 24 then 100352 * (wn q).toInt64 + (h (zFROM.getD q 0) - h (zTO.getD q 0)) else nt0 q) → post none (WA wn h nt)) : ∀ (n k : Nat) (nt : Nat → Int64), k ≤ 24 → 24 < k + n → (∀ q, nt q = if q < k then 100352 * (wn q).toInt64 + (h (zFROM.getD q 0) - h (zTO.getD q 0)) else nt0 q) → ZG X 75 [some (.ref 0), some (.int (nI k)), none, none, none] [] (WA wn h nt) := by
  intro n
  induction n with
  | zero => intro k nt z1 z2; omega
  | succ n ih =>
    intro k nt hk1 hk2 hn
    refine z_iload_n hX dX0_settle_75 rfl ?_
    refine z_bipush (v := nI 24) hX dX0_settle_76 rfl ?_
    first | with_reducible refine z_icmp_geN (tgt := 110) hX dX0_settle_78 (by decide) (by omega) (by omega) (fun c_78 => ?_) (fun c_78 => ?_) | refine z_icmp_ge (tgt := 110) hX dX0_settle_78 (by decide) (fun c_78 => ?_) (fun c_78 => ?_)
    · -- 78 t
      have zk : k = 24 := by omega
      subst zk
      refine z_vret hX hR dX0_settle_110 ?_
      exact hpost nt hn
    · -- 78 f
      refine z_aload_n hX dX0_settle_81 rfl ?_
      refine z_get hX dX0_settle_82 f_0_19 rfl rfl ?_
      refine z_iload_n hX dX0_settle_85 rfl ?_
      refine z_ldc2 hX dX0_settle_86 k_0_37 ?_
      refine z_aload_n hX dX0_settle_89 rfl ?_
      refine z_get hX dX0_settle_90 f_0_9 rfl rfl ?_
      refine z_iload_n hX dX0_settle_93 rfl ?_
      first | refine z_iald hX dX0_settle_94 rfl (by omega) (by decide) ?_ | refine z_stld (nm := "FROM") (xs := zFROM) hX dX0_settle_94 (fun _ _ _ _ h => h.1) (by show _ < 24; omega) (by decide) ?_ | refine z_stld (nm := "TO") (xs := zTO) hX dX0_settle_94 (fun _ _ _ _ h => h.2.1) (by show _ < 24; omega) (by decide) ?_ | refine z_stld (nm := "FALL") (xs := zFALL) hX dX0_settle_94 (fun _ _ _ _ h => h.2.2.1) (by show _ < 81; omega) (by decide) ?_
      first | with_reducible refine z_i2lN hX dX0_settle_95 (by omega) ?_ | refine z_i2l hX dX0_settle_95 ?_
      refine z_lmul hX dX0_settle_96 ?_
      refine z_aload_n hX dX0_settle_97 rfl ?_
      refine z_iload_n hX dX0_settle_98 rfl ?_
      refine z_callV0 hX dX0_settle_99 mv_0_39 (c_X0_changeAt wn h nt k (by omega)) (by decide) rfl rfl rfl rfl (Nat.le_of_ble_eq_true rfl) (fun r w1 hp _ => ?_)
      obtain ⟨rfl, rfl⟩ := hp
      refine z_ladd hX dX0_settle_102 ?_
      refine z_last (w' := [_, _, _, _]) hX dX0_settle_103 rfl (by omega) (by decide) rfl ?_
      first | refine z_iincN (b := 1) (ls' := [_, _, _, _, _]) hX dX0_settle_104 rfl rfl rfl ?_ | refine z_iinc (ls' := [_, _, _, _, _]) hX dX0_settle_104 rfl rfl ?_
      refine z_goto (tgt := 75) hX dX0_settle_107 (by decide) ?_
      refine ih (k + 1) (vp_updL nt k _) (by omega) (by omega) (fun q => ?_)
      by_cases e : q = k
      · rw [e, pk_uLs, if_pos (by omega)]
      · rw [pk_uLn e, hn q]
        by_cases e2 : q < k
        · rw [if_pos e2, if_pos (by omega)]
        · rw [if_neg e2, if_neg (by omega)]
/-- the heights as the class finds them: behind k givers, the last one's first j boxes too -/
def stT (wn : Nat → Int32) (k q : Nat) : Int64 := 448 * (surF wn k).toInt64 * lN (zFALL.getD (k * 9 + q) 0)
def stF (wn : Nat → Int32) (q k : Nat) : Int64 := zfold (fun i s => s - stT wn i q) k 0
theorem stF_s (wn : Nat → Int32) (q k : Nat) : stF wn q (k + 1) = stF wn q k - stT wn k q := rfl
set_option maxHeartbeats 4000000 in
set_option maxRecDepth 100000 in
theorem lp_set_30 {X : ZX} {post : Option Value → ZW → Prop} (hX : ZOK X 0 cX0_settle 1) (hR : ZRet X none post) (wn : Nat → Int32) (h nt : Nat → Int64) (k : Nat) (hk : k < 9) (K : ∀ h1, (∀ q, q < 9 → h1 q = stF wn q (k + 1)) → h1 9 = 0 → ZG X 67 [some (.ref 0), some (.int (nI k)), some (.long (448 * (surF wn k).toInt64)), none, none] [] (WA wn h1 nt)) : ∀ (n j : Nat) (h : Nat → Int64), j ≤ 9 → 9 < j + n → (∀ q, q < 9 → h q = if q < j then stF wn q (k + 1) else stF wn q k) → h 9 = 0 → ZG X 30 [some (.ref 0), some (.int (nI k)), some (.long (448 * (surF wn k).toInt64)), none, some (.int (nI j))] [] (WA wn h nt) := by
  intro n
  induction n with
  | zero => intro j h z1 z2; omega
  | succ n ih =>
    intro j h hj1 hj2 hh h9
    refine z_iload hX dX0_settle_30 rfl ?_
    refine z_bipush (v := nI 9) hX dX0_settle_32 rfl ?_
    first | with_reducible refine z_icmp_geN (tgt := 67) hX dX0_settle_34 (by decide) (by omega) (by omega) (fun c_34 => ?_) (fun c_34 => ?_) | refine z_icmp_ge (tgt := 67) hX dX0_settle_34 (by decide) (fun c_34 => ?_) (fun c_34 => ?_)
    · -- 34 t
      have zj : j = 9 := by omega
      subst zj
      refine z_forget (ls' := [some (.ref 0), some _, some _, none, none]) ⟨rfl, rfl, rfl, trivial⟩ (K h (fun q hq => by rw [hh q hq, if_pos hq]) h9)
    · -- 34 f
      refine z_aload_n hX dX0_settle_37 rfl ?_
      refine z_get hX dX0_settle_38 f_0_15 rfl rfl ?_
      refine z_iload hX dX0_settle_41 rfl ?_
      first | refine z_dup2_2 hX dX0_settle_43 rfl ?_ | refine z_dup2_11 hX dX0_settle_43 rfl rfl ?_
      refine z_lald hX dX0_settle_44 rfl (by omega) (by decide) ?_
      refine z_lload_n hX dX0_settle_45 rfl ?_
      refine z_stat (nm := "FALL") (xs := zFALL) (k := 1002) hX dX0_settle_46 (fun _ _ _ _ h => ⟨h.2.2.1, h.2.2.2.1⟩) ?_
      refine z_iload_n hX dX0_settle_49 rfl ?_
      refine z_bipush (v := nI 9) hX dX0_settle_50 rfl ?_
      first | with_reducible refine z_imulN hX dX0_settle_52 ?_ | refine z_imul hX dX0_settle_52 ?_
      refine z_iload hX dX0_settle_53 rfl ?_
      first | with_reducible refine z_iaddN hX dX0_settle_55 ?_ | refine z_iadd hX dX0_settle_55 ?_
      refine z_stld (nm := "FALL") (xs := zFALL) hX dX0_settle_56 (fun _ _ _ _ h => h.2.2.1) (by show _ < 81; omega) (by decide) ?_
      have zfl := zFALL_le (k * 9 + j)
      first | with_reducible refine z_i2lN hX dX0_settle_57 (by omega) ?_ | refine z_i2l hX dX0_settle_57 ?_
      refine z_lmul hX dX0_settle_58 ?_
      refine z_lsub hX dX0_settle_59 ?_
      refine z_last (w' := [_, _, _, _]) hX dX0_settle_60 rfl (by omega) (by decide) rfl ?_
      first | refine z_iincN (b := 1) (ls' := [_, _, _, _, _]) hX dX0_settle_61 rfl rfl rfl ?_ | refine z_iinc (ls' := [_, _, _, _, _]) hX dX0_settle_61 rfl rfl ?_
      refine z_goto (tgt := 30) hX dX0_settle_64 (by decide) ?_
      refine ih (j + 1) (vp_updL h j (h j - 448 * (surF wn k).toInt64 * lN (zFALL.getD (k * 9 + j) 0))) (by omega) (by omega) (fun q hq => ?_) (by rw [pk_uLn (by omega)]; exact h9)
      by_cases e : q = j
      · rw [e, pk_uLs, if_pos (by omega), hh j (by omega), if_neg (by omega), stF_s]
        rfl
      · rw [pk_uLn e, hh q hq]
        by_cases e2 : q < j
        · rw [if_pos e2, if_pos (by omega)]
        · rw [if_neg e2, if_neg (by omega)]
set_option maxHeartbeats 4000000 in
set_option maxRecDepth 100000 in
theorem lp_set_10 {X : ZX} {post : Option Value → ZW → Prop} (hX : ZOK X 0 cX0_settle 1) (hR : ZRet X none post) (wn : Nat → Int32) (h nt : Nat → Int64) (hpost : ∀ h1 nt1, (∀ q, q < 9 → h1 q = stF wn q 9) → h1 9 = 0 → (∀ q, nt1 q = if q < 24 then 100352 * (wn q).toInt64 + (h1 (zFROM.getD q 0) - h1 (zTO.getD q 0)) else nt q) → post none (WA wn h1 nt1)) : ∀ (n k : Nat) (h : Nat → Int64), k ≤ 9 → 9 < k + n → (∀ q, q < 9 → h q = stF wn q k) → h 9 = 0 → ZG X 10 [some (.ref 0), some (.int (nI k)), none, none, none] [] (WA wn h nt) := by
  intro n
  induction n with
  | zero => intro k h z1 z2; omega
  | succ n ih =>
    intro k h hk1 hk2 hh h9
    refine z_iload_n hX dX0_settle_10 rfl ?_
    refine z_bipush (v := nI 9) hX dX0_settle_11 rfl ?_
    first | with_reducible refine z_icmp_geN (tgt := 73) hX dX0_settle_13 (by decide) (by omega) (by omega) (fun c_13 => ?_) (fun c_13 => ?_) | refine z_icmp_ge (tgt := 73) hX dX0_settle_13 (by decide) (fun c_13 => ?_) (fun c_13 => ?_)
    · -- 13 t
      refine z_iconst (v := nI 0) hX dX0_settle_73 rfl ?_
      refine z_istore_n (ls' := [_, _, _, _, _]) hX dX0_settle_74 (Nat.le_of_ble_eq_true rfl) rfl ?_
      have zk : k = 9 := by omega
      subst zk
      exact lp_set_75 hX hR wn h nt (fun nt1 e => hpost h nt1 hh h9 e) 25 0 nt (by omega) (by omega) (fun q => by rw [if_neg (by omega)])
    · -- 13 f
      refine z_ldc2 hX dX0_settle_16 k_0_28 ?_
      refine z_aload_n hX dX0_settle_19 rfl ?_
      refine z_iload_n hX dX0_settle_20 rfl ?_
      refine z_callV0 hX dX0_settle_21 mv_0_30 (c_X0_surplus wn h nt k (by omega)) (by decide) rfl rfl rfl rfl (Nat.le_of_ble_eq_true rfl) (fun r w1 hp _ => ?_)
      obtain ⟨rfl, rfl⟩ := hp
      refine z_i2l hX dX0_settle_24 ?_
      refine z_lmul hX dX0_settle_25 ?_
      refine z_lstore_n (ls' := [_, _, _, _, _]) hX dX0_settle_26 (Nat.le_of_ble_eq_true rfl) rfl ?_
      refine z_iconst (v := nI 0) hX dX0_settle_27 rfl ?_
      refine z_istore (ls' := [_, _, _, _, _]) hX dX0_settle_28 (Nat.le_of_ble_eq_true rfl) rfl ?_
      refine lp_set_30 hX hR wn h nt k (by omega) (fun h1 e1 e2 => ?_) 10 0 h (by omega) (by omega) (fun q hq => by rw [if_neg (by omega)]; exact hh q hq) h9
      first | refine z_iincN (b := 1) (ls' := [_, _, _, _, _]) hX dX0_settle_67 rfl rfl rfl ?_ | refine z_iinc (ls' := [_, _, _, _, _]) hX dX0_settle_67 rfl rfl ?_
      refine z_goto (tgt := 10) hX dX0_settle_70 (by decide) ?_
      refine z_forget (ls' := [some (.ref 0), some _, none, none, none]) ⟨rfl, rfl, trivial⟩ (ih (k + 1) h1 (by omega) (by omega) e1 e2)
set_option maxHeartbeats 4000000 in
set_option maxRecDepth 100000 in
theorem c_X0_settle (wn : Nat → Int32) (h nt : Nat → Int64) : ∀ l, ZC l yX0_settle cX0_settle 5 none 1 [.ref 0] (WA wn h nt) (fun r w' => r = none ∧ ∃ h1 nt1, w' = WA wn h1 nt1 ∧ (∀ q, q < 9 → h1 q = stF wn q 9) ∧ h1 9 = 0 ∧ ∀ q, nt1 q = if q < 24 then 100352 * (wn q).toInt64 + (h1 (zFROM.getD q 0) - h1 (zTO.getD q 0)) else nt q) := by
  intro l
  refine zc_intro (oc := 0) (by decide +kernel) rfl (Nat.le_of_ble_eq_true rfl) ?_
  intro X hX hR
  refine z_norm (ls' := [_, _, _, _, _]) rfl rfl rfl ?_
  refine z_aload_n hX dX0_settle_0 rfl ?_
  refine z_get hX dX0_settle_1 f_0_15 rfl rfl ?_
  refine z_lconst (v := 0) hX dX0_settle_4 rfl ?_
  refine z_callS hX dX0_settle_5 ms_0_22 [2] (c_J_fillL 10 (by decide) 0 h) (by decide) rfl rfl (Nat.le_of_ble_eq_true rfl) rfl rfl (Nat.le_of_ble_eq_true rfl) (fun r w1 hp _ => ?_)
  obtain ⟨rfl, h1, rfl, e1⟩ := hp
  refine z_norm (w' := WA wn h1 nt) rfl rfl rfl ?_
  refine z_iconst (v := nI 0) hX dX0_settle_8 rfl ?_
  refine z_istore_n (ls' := [_, _, _, _, _]) hX dX0_settle_9 (Nat.le_of_ble_eq_true rfl) rfl ?_
  exact lp_set_10 hX hR wn h1 nt (fun h2 nt2 q1 q2 q3 => ⟨rfl, h2, nt2, rfl, q1, q2, q3⟩) 10 0 h1 (by omega) (by omega) (fun q hq => by rw [e1 q (by omega)]; rfl) (e1 9 (by omega))
