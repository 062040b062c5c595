/-! ===== the class: the law ===== -/
def WLw1 (pr ct lw : Nat → Int32) (nu s0 s1 s2 : Nat → Int64) (gp f : Nat → Int32) : ZW := [.inr (1, [.ref 1, .ref 2, .int (lw 0), .int (lw 1), .int (lw 2)]), .inl (0, 3, .inl pr), .inl (0, 3, .inl ct), .inr (2, [.ref 4, .ref 5, .ref 9, .int (f 0), .int (f 1), .int (f 2), .int (f 3), .int (f 4)]), .inl (1, 100, .inr nu), .inr (103, [.ref 6, .ref 7, .ref 8]), .inl (1, 100, .inr s0), .inl (1, 100, .inr s1), .inl (1, 100, .inr s2), .inl (2, 100, .inl gp)]
set_option maxHeartbeats 4000000 in
set_option maxRecDepth 100000 in
theorem c_X1_isKeptAt (pr ct lw : Nat → Int32) (nu s0 s1 s2 : Nat → Int64) (gp f : Nat → Int32) (lt : Nat) (hlt : lt < 100) (h2 : f 2 = nI lt) (cn : Nat) (hcn : cn ≤ 100) (h1 : f 1 = nI cn) (c0 c1 c2 : Int32) : ∀ l, ZC l yX1_isKeptAt cX1_isKeptAt 7 (some .boolean) 2 [.ref 0, .ref 3, .int c0, .int c1, .int c2] (WLw1 pr ct lw nu s0 s1 s2 gp f) (fun r w' => w' = WLw1 pr ct lw nu s0 s1 s2 gp f ∧ ((nI (aaF s0 s1 s2 gp lt ((lw 1).toInt64 * 10) (nI 10 - c0) (nI 10 - c1) (nI 10 - c2) cn) ≤ lw 2 ∧ r = some (.int (nI 1))) ∨ (¬ nI (aaF s0 s1 s2 gp lt ((lw 1).toInt64 * 10) (nI 10 - c0) (nI 10 - c1) (nI 10 - c2) cn) ≤ lw 2 ∧ r = some (.int (nI 0))))) := by
  intro l
  refine zc_intro (oc := 1) (by decide +kernel) rfl (Nat.le_of_ble_eq_true rfl) ?_
  intro X hX hR
  refine z_norm (ls' := [_, _, _, _, _, _, _]) rfl rfl rfl ?_
  refine z_aload_n hX dX1_isKeptAt_0 rfl ?_
  refine z_get hX dX1_isKeptAt_1 f_1_22 rfl rfl ?_
  refine z_i2l hX dX1_isKeptAt_4 ?_
  refine z_ldc2 hX dX1_isKeptAt_5 k_1_38 ?_
  refine z_lmul hX dX1_isKeptAt_8 ?_
  refine z_lstore (ls' := [_, _, _, _, _, _, _]) hX dX1_isKeptAt_9 (Nat.le_of_ble_eq_true rfl) rfl ?_
  refine z_aload_n hX dX1_isKeptAt_11 rfl ?_
  refine z_aload_n hX dX1_isKeptAt_12 rfl ?_
  refine z_get hX dX1_isKeptAt_13 f_1_25 rfl rfl ?_
  refine z_lload hX dX1_isKeptAt_16 rfl ?_
  refine z_bipush (v := nI 10) hX dX1_isKeptAt_18 rfl ?_
  refine z_iload_n hX dX1_isKeptAt_20 rfl ?_
  refine z_isub hX dX1_isKeptAt_21 ?_
  refine z_bipush (v := nI 10) hX dX1_isKeptAt_22 rfl ?_
  refine z_iload_n hX dX1_isKeptAt_24 rfl ?_
  refine z_isub hX dX1_isKeptAt_25 ?_
  refine z_bipush (v := nI 10) hX dX1_isKeptAt_26 rfl ?_
  refine z_iload hX dX1_isKeptAt_28 rfl ?_
  refine z_isub hX dX1_isKeptAt_30 ?_
  refine z_callV hX dX1_isKeptAt_31 mv_1_40 [3, 4, 5, 6, 7, 8, 9] (c_X2_isAboveAtMost nu s0 s1 s2 gp f lt hlt h2 cn hcn h1 _ _ _ _ _) (by decide) rfl rfl rfl rfl (Nat.le_of_ble_eq_true rfl) rfl rfl (Nat.le_of_ble_eq_true rfl) (fun r w1 hp _ => ?_)
  obtain ⟨rfl, ⟨hK1, rfl⟩ | ⟨hK1, rfl⟩⟩ := hp
  · -- 31 T
    refine z_norm (w' := WLw1 pr ct lw nu s0 s1 s2 gp f) rfl rfl rfl ?_
    refine z_zret hX hR dX1_isKeptAt_34 (by first | exact Or.inl rfl | exact Or.inr rfl | assumption) ?_
    exact ⟨rfl, Or.inl ⟨hK1, rfl⟩⟩
  · -- 31 F
    refine z_norm (w' := WLw1 pr ct lw nu s0 s1 s2 gp f) rfl rfl rfl ?_
    refine z_zret hX hR dX1_isKeptAt_34 (by first | exact Or.inl rfl | exact Or.inr rfl | assumption) ?_
    exact ⟨rfl, Or.inr ⟨hK1, rfl⟩⟩
def WL32 (pr ct lw : Nat → Int32) (a : Nat → Nat → Int32) (b : Nat → Nat → Int64) (f : Nat → Nat → Int32) : ZW := [.inr (1, [.ref 1, .ref 2, .int (lw 0), .int (lw 1), .int (lw 2)]), .inl (0, 3, .inl pr), .inl (0, 3, .inl ct), .inr (102, [.ref 4, .ref 11, .ref 18, .ref 25]), .inr (2, [.ref 5, .ref 6, .ref 10, .int (f 4 0), .int (f 4 1), .int (f 4 2), .int (f 4 3), .int (f 4 4)]), .inl (1, 100, .inr (b 5)), .inr (103, [.ref 7, .ref 8, .ref 9]), .inl (1, 100, .inr (b 7)), .inl (1, 100, .inr (b 8)), .inl (1, 100, .inr (b 9)), .inl (2, 100, .inl (a 10)), .inr (2, [.ref 12, .ref 13, .ref 17, .int (f 11 0), .int (f 11 1), .int (f 11 2), .int (f 11 3), .int (f 11 4)]), .inl (1, 100, .inr (b 12)), .inr (103, [.ref 14, .ref 15, .ref 16]), .inl (1, 100, .inr (b 14)), .inl (1, 100, .inr (b 15)), .inl (1, 100, .inr (b 16)), .inl (2, 100, .inl (a 17)), .inr (2, [.ref 19, .ref 20, .ref 24, .int (f 18 0), .int (f 18 1), .int (f 18 2), .int (f 18 3), .int (f 18 4)]), .inl (1, 100, .inr (b 19)), .inr (103, [.ref 21, .ref 22, .ref 23]), .inl (1, 100, .inr (b 21)), .inl (1, 100, .inr (b 22)), .inl (1, 100, .inr (b 23)), .inl (2, 100, .inl (a 24)), .inr (2, [.ref 26, .ref 27, .ref 31, .int (f 25 0), .int (f 25 1), .int (f 25 2), .int (f 25 3), .int (f 25 4)]), .inl (1, 100, .inr (b 26)), .inr (103, [.ref 28, .ref 29, .ref 30]), .inl (1, 100, .inr (b 28)), .inl (1, 100, .inr (b 29)), .inl (1, 100, .inr (b 30)), .inl (2, 100, .inl (a 31))]
theorem z4 {d : Nat} (h : d < 4) : d = 0 ∨ d = 1 ∨ d = 2 ∨ d = 3 := by omega
def isL (d : Nat) : List Nat := [0, 1, 2, 4 + 7 * d, 5 + 7 * d, 6 + 7 * d, 7 + 7 * d, 8 + 7 * d, 9 + 7 * d, 10 + 7 * d]
section WL
variable (pr ct lw : Nat → Int32) (a : Nat → Nat → Int32) (b : Nat → Nat → Int64) (f : Nat → Nat → Int32)
abbrev WL1d (d : Nat) : ZW := WLw1 pr ct lw (b (5 + 7 * d)) (b (7 + 7 * d)) (b (8 + 7 * d)) (b (9 + 7 * d)) (a (10 + 7 * d)) (f (4 + 7 * d))
theorem wl_row {d : Nat} (h : d < 4) : ([.ref 4, .ref 11, .ref 18, .ref 25] : List Value)[d]? = some (.ref (4 + 7 * d)) := by rcases z4 h with rfl | rfl | rfl | rfl <;> rfl
theorem wl_obj {d : Nat} (h : d < 4) : (WL32 pr ct lw a b f)[4 + 7 * d]? = some (.inr (2, [.ref (5 + 7 * d), .ref (6 + 7 * d), .ref (10 + 7 * d), .int (f (4 + 7 * d) 0), .int (f (4 + 7 * d) 1), .int (f (4 + 7 * d) 2), .int (f (4 + 7 * d) 3), .int (f (4 + 7 * d) 4)])) := by rcases z4 h with rfl | rfl | rfl | rfl <;> rfl
theorem wl_sub {d : Nat} (h : d < 4) : (isL d).map (fun i => (WL32 pr ct lw a b f)[i]?) = (WL1d pr ct lw a b f d).map (fun e => some (zre (zg (isL d)) e)) := by rcases z4 h with rfl | rfl | rfl | rfl <;> rfl
theorem wl_nd {d : Nat} (h : d < 4) : va_nd (isL d) = true := by rcases z4 h with rfl | rfl | rfl | rfl <;> rfl
theorem wl_put {d : Nat} (h : d < 4) : zput (zg (isL d)) (isL d) (WL32 pr ct lw a b f) (WL1d pr ct lw a b f d) = WL32 pr ct lw a b f := by rcases z4 h with rfl | rfl | rfl | rfl <;> rfl
end WL
/-- a log's latest place and how many hours it keeps -/
def okF (f : Nat → Nat → Int32) : Prop := ∀ d, d < 4 → ∃ lt cn, lt < 100 ∧ cn ≤ 100 ∧ f (4 + 7 * d) 2 = nI lt ∧ f (4 + 7 * d) 1 = nI cn
def kcP (lw : Nat → Int32) (a : Nat → Nat → Int32) (b : Nat → Nat → Int64) (f : Nat → Nat → Int32) (c0 c1 c2 : Int32) (d : Nat) : Prop := nI (aaF (b (7 + 7 * d)) (b (8 + 7 * d)) (b (9 + 7 * d)) (a (10 + 7 * d)) (f (4 + 7 * d) 2).toNatClampNeg ((lw 1).toInt64 * 10) (nI 10 - c0) (nI 10 - c1) (nI 10 - c2) (f (4 + 7 * d) 1).toNatClampNeg) ≤ lw 2
def alK (lw : Nat → Int32) (a : Nat → Nat → Int32) (b : Nat → Nat → Int64) (f : Nat → Nat → Int32) (c0 c1 c2 : Int32) (n : Nat) : Prop := ∀ d, d < n → f (4 + 7 * d) 4 = 0 ∨ kcP lw a b f c0 c1 c2 d
set_option maxHeartbeats 4000000 in
set_option maxRecDepth 100000 in
theorem lp_ik_3 {X : ZX} {post : Option Value → ZW → Prop} (hX : ZOK X 1 cX1_isKept 3) (hR : ZRet X (some .boolean) post) (pr ct lw : Nat → Int32) (a : Nat → Nat → Int32) (b : Nat → Nat → Int64) (f : Nat → Nat → Int32) (hokf : okF f) (c0 c1 c2 : Int32) (hpost1 : alK lw a b f c0 c1 c2 4 → post (some (.int (nI 1))) (WL32 pr ct lw a b f)) (hpost2 : ¬ alK lw a b f c0 c1 c2 4 → post (some (.int (nI 0))) (WL32 pr ct lw a b f)) : ∀ (n d : Nat), d ≤ 4 → 4 < d + n → alK lw a b f c0 c1 c2 d → ZG X 3 [some (.ref 0), some (.ref 3), some (.int c0), some (.int c1), some (.int c2), some (.int (nI d))] [] (WL32 pr ct lw a b f) := by
  intro n
  induction n with
  | zero => intro d z1 z2; omega
  | succ n ih =>
    intro d hd1 hd2 hal
    refine z_iload hX dX1_isKept_3 rfl ?_
    refine z_iconst (v := nI 4) hX dX1_isKept_5 rfl ?_
    first | with_reducible refine z_icmp_geN (tgt := 42) hX dX1_isKept_6 (by decide) (by omega) (by omega) (fun c_6 => ?_) (fun c_6 => ?_) | refine z_icmp_ge (tgt := 42) hX dX1_isKept_6 (by decide) (fun c_6 => ?_) (fun c_6 => ?_)
    · -- 6 t
      have zd : d = 4 := by omega
      subst zd
      refine z_iconst (v := nI 1) hX dX1_isKept_42 rfl ?_
      refine z_zret hX hR dX1_isKept_43 (by first | exact Or.inl rfl | exact Or.inr rfl | assumption) ?_
      exact hpost1 hal
    · -- 6 f
      refine z_aload_n hX dX1_isKept_9 rfl ?_
      refine z_iload hX dX1_isKept_10 rfl ?_
      refine z_aald hX dX1_isKept_12 rfl (by decide) (wl_row (d := d) (by omega)) (Nat.le_of_ble_eq_true rfl) ?_
      refine z_get hX dX1_isKept_13 f_1_28 (wl_obj pr ct lw a b f (by omega)) rfl ?_
      refine z_if_eq (tgt := 36) hX dX1_isKept_16 (by decide) (fun c_16 => ?_) (fun c_16 => ?_)
      · -- 16 t
        first | refine z_iincN (b := 1) (ls' := [_, _, _, _, _, _]) hX dX1_isKept_36 rfl rfl rfl ?_ | refine z_iinc (ls' := [_, _, _, _, _, _]) hX dX1_isKept_36 rfl rfl ?_
        refine z_goto (tgt := 3) hX dX1_isKept_39 (by decide) ?_
        refine ih (d + 1) (by omega) (by omega) (fun e he => ?_)
        rcases (show e < d ∨ e = d by omega) with q | q
        · exact hal e q
        · rw [q]
          exact Or.inl c_16
      · -- 16 f
        refine z_aload_n hX dX1_isKept_19 rfl ?_
        refine z_aload_n hX dX1_isKept_20 rfl ?_
        refine z_iload hX dX1_isKept_21 rfl ?_
        refine z_aald hX dX1_isKept_23 rfl (by decide) (wl_row (d := d) (by omega)) (Nat.le_of_ble_eq_true rfl) ?_
        refine z_iload_n hX dX1_isKept_24 rfl ?_
        refine z_iload_n hX dX1_isKept_25 rfl ?_
        refine z_iload hX dX1_isKept_26 rfl ?_
        obtain ⟨lt, cn, hlt, hcn, h2, h1⟩ := hokf d (by omega)
        have zlt : (f (4 + 7 * d) 2).toNatClampNeg = lt := by rw [h2, nI_clamp (by omega)]
        have zcn : (f (4 + 7 * d) 1).toNatClampNeg = cn := by rw [h1, nI_clamp (by omega)]
        refine z_callV hX dX1_isKept_28 mv_1_34 (isL d) (c_X1_isKeptAt pr ct lw (b (5 + 7 * d)) (b (7 + 7 * d)) (b (8 + 7 * d)) (b (9 + 7 * d)) (a (10 + 7 * d)) (f (4 + 7 * d)) lt hlt h2 cn hcn h1 c0 c1 c2) (by decide) rfl rfl (wl_sub pr ct lw a b f (by omega)) (wl_nd (by omega)) (Nat.le_of_ble_eq_true rfl) rfl rfl (Nat.le_of_ble_eq_true rfl) (fun r w1 hp _ => ?_)
        obtain ⟨rfl, hp⟩ := hp
        refine z_norm (w' := WL32 pr ct lw a b f) rfl rfl (wl_put pr ct lw a b f (by omega)) ?_
        rw [← zlt, ← zcn] at hp
        rcases hp with ⟨hK1, rfl⟩ | ⟨hK1, rfl⟩
        · -- 28 T
          refine z_if_ne (tgt := 36) hX dX1_isKept_31 (by decide) (fun _ => ?_) (fun c => absurd c (by decide))
          first | refine z_iincN (b := 1) (ls' := [_, _, _, _, _, _]) hX dX1_isKept_36 rfl rfl rfl ?_ | refine z_iinc (ls' := [_, _, _, _, _, _]) hX dX1_isKept_36 rfl rfl ?_
          refine z_goto (tgt := 3) hX dX1_isKept_39 (by decide) ?_
          refine ih (d + 1) (by omega) (by omega) (fun e he => ?_)
          rcases (show e < d ∨ e = d by omega) with q | q
          · exact hal e q
          · rw [q]
            exact Or.inr hK1
        · -- 28 F
          refine z_if_ne (tgt := 36) hX dX1_isKept_31 (by decide) (fun c => absurd c (by decide)) (fun _ => ?_)
          refine z_iconst (v := nI 0) hX dX1_isKept_34 rfl ?_
          refine z_zret hX hR dX1_isKept_35 (by first | exact Or.inl rfl | exact Or.inr rfl | assumption) ?_
          exact hpost2 (fun q => (q d (by omega)).elim c_16 hK1)
set_option maxHeartbeats 4000000 in
set_option maxRecDepth 100000 in
theorem c_X1_isKept (pr ct lw : Nat → Int32) (a : Nat → Nat → Int32) (b : Nat → Nat → Int64) (f : Nat → Nat → Int32) (hokf : okF f) (c0 c1 c2 : Int32) : ∀ l, ZC l yX1_isKept cX1_isKept 6 (some .boolean) 3 [.ref 0, .ref 3, .int c0, .int c1, .int c2] (WL32 pr ct lw a b f) (fun r w' => w' = WL32 pr ct lw a b f ∧ ((alK lw a b f c0 c1 c2 4 ∧ r = some (.int (nI 1))) ∨ (¬ alK lw a b f c0 c1 c2 4 ∧ r = some (.int (nI 0))))) := by
  intro l
  refine zc_intro (oc := 1) (by decide +kernel) rfl (Nat.le_of_ble_eq_true rfl) ?_
  intro X hX hR
  refine z_norm (ls' := [_, _, _, _, _, _]) rfl rfl rfl ?_
  refine z_iconst (v := nI 0) hX dX1_isKept_0 rfl ?_
  refine z_istore (ls' := [_, _, _, _, _, _]) hX dX1_isKept_1 (Nat.le_of_ble_eq_true rfl) rfl ?_
  exact lp_ik_3 hX hR pr ct lw a b f hokf c0 c1 c2 (fun e => ⟨rfl, Or.inl ⟨e, rfl⟩⟩) (fun e => ⟨rfl, Or.inr ⟨e, rfl⟩⟩) 5 0 (by omega) (by omega) (fun e he => by omega)
def dkF (lw : Nat → Int32) (a : Nat → Nat → Int32) (b : Nat → Nat → Int64) (f : Nat → Nat → Int32) : Nat → Nat → Prop
  | 0, m => m = 0
  | n + 1, m => ∃ m0, dkF lw a b f n m0 ∧ ((¬ f (4 + 7 * n) 4 = 0 ∧ kcP lw a b f (nI 0) (nI 0) (nI 0) n ∧ m = m0 + 1) ∨ ((f (4 + 7 * n) 4 = 0 ∨ ¬ kcP lw a b f (nI 0) (nI 0) (nI 0) n) ∧ m = m0))
theorem dkF_le {lw : Nat → Int32} {a : Nat → Nat → Int32} {b : Nat → Nat → Int64} {f : Nat → Nat → Int32} : ∀ {n m : Nat}, dkF lw a b f n m → m ≤ n
  | 0, m, h => by have : m = 0 := h; omega
  | n + 1, m, h => by
    obtain ⟨m0, h1, h2⟩ := h
    have := dkF_le h1
    rcases h2 with ⟨-, -, h2⟩ | ⟨-, h2⟩ <;> omega
set_option maxHeartbeats 4000000 in
set_option maxRecDepth 100000 in
theorem lp_dk_4 {X : ZX} {post : Option Value → ZW → Prop} (hX : ZOK X 1 cX1_doorsKeptAt 3) (hR : ZRet X (some .int) post) (pr ct lw : Nat → Int32) (a : Nat → Nat → Int32) (b : Nat → Nat → Int64) (f : Nat → Nat → Int32) (hokf : okF f) (hpost : ∀ m, dkF lw a b f 4 m → post (some (.int (nI m))) (WL32 pr ct lw a b f)) : ∀ (n d m : Nat), d ≤ 4 → 4 < d + n → dkF lw a b f d m → ZG X 4 [some (.ref 0), some (.ref 3), some (.int (nI m)), some (.int (nI d))] [] (WL32 pr ct lw a b f) := by
  intro n
  induction n with
  | zero => intro d m z1 z2; omega
  | succ n ih =>
    intro d m hd1 hd2 hm
    refine z_iload_n hX dX1_doorsKeptAt_4 rfl ?_
    refine z_iconst (v := nI 4) hX dX1_doorsKeptAt_5 rfl ?_
    first | with_reducible refine z_icmp_geN (tgt := 45) hX dX1_doorsKeptAt_6 (by decide) (by omega) (by omega) (fun c_6 => ?_) (fun c_6 => ?_) | refine z_icmp_ge (tgt := 45) hX dX1_doorsKeptAt_6 (by decide) (fun c_6 => ?_) (fun c_6 => ?_)
    · -- 6 t
      have zd : d = 4 := by omega
      subst zd
      refine z_iload_n hX dX1_doorsKeptAt_45 rfl ?_
      refine z_iret hX hR dX1_doorsKeptAt_46 ?_
      exact hpost m hm
    · -- 6 f
      have hle := dkF_le hm
      refine z_iload_n hX dX1_doorsKeptAt_9 rfl ?_
      refine z_aload_n hX dX1_doorsKeptAt_10 rfl ?_
      refine z_iload_n hX dX1_doorsKeptAt_11 rfl ?_
      refine z_aald hX dX1_doorsKeptAt_12 rfl (by decide) (wl_row (d := d) (by omega)) (Nat.le_of_ble_eq_true rfl) ?_
      refine z_get hX dX1_doorsKeptAt_13 f_1_28 (wl_obj pr ct lw a b f (by omega)) rfl ?_
      refine z_if_eq (tgt := 36) hX dX1_doorsKeptAt_16 (by decide) (fun c_16 => ?_) (fun c_16 => ?_)
      · -- 16 t
        refine z_iconst (v := nI 0) hX dX1_doorsKeptAt_36 rfl ?_
        first | with_reducible refine z_iaddN hX dX1_doorsKeptAt_37 ?_ | refine z_iadd hX dX1_doorsKeptAt_37 ?_
        refine z_istore_n (ls' := [_, _, _, _]) hX dX1_doorsKeptAt_38 (Nat.le_of_ble_eq_true rfl) rfl ?_
        first | refine z_iincN (b := 1) (ls' := [_, _, _, _]) hX dX1_doorsKeptAt_39 rfl rfl rfl ?_ | refine z_iinc (ls' := [_, _, _, _]) hX dX1_doorsKeptAt_39 rfl rfl ?_
        refine z_goto (tgt := 4) hX dX1_doorsKeptAt_42 (by decide) ?_
        exact ih (d + 1) m (by omega) (by omega) ⟨m, hm, Or.inr ⟨Or.inl c_16, rfl⟩⟩
      · -- 16 f
        refine z_aload_n hX dX1_doorsKeptAt_19 rfl ?_
        refine z_aload_n hX dX1_doorsKeptAt_20 rfl ?_
        refine z_iload_n hX dX1_doorsKeptAt_21 rfl ?_
        refine z_aald hX dX1_doorsKeptAt_22 rfl (by decide) (wl_row (d := d) (by omega)) (Nat.le_of_ble_eq_true rfl) ?_
        refine z_iconst (v := nI 0) hX dX1_doorsKeptAt_23 rfl ?_
        refine z_iconst (v := nI 0) hX dX1_doorsKeptAt_24 rfl ?_
        refine z_iconst (v := nI 0) hX dX1_doorsKeptAt_25 rfl ?_
        obtain ⟨lt, cn, hlt, hcn, h2, h1⟩ := hokf d (by omega)
        have zlt : (f (4 + 7 * d) 2).toNatClampNeg = lt := by rw [h2, nI_clamp (by omega)]
        have zcn : (f (4 + 7 * d) 1).toNatClampNeg = cn := by rw [h1, nI_clamp (by omega)]
        refine z_callV hX dX1_doorsKeptAt_26 mv_1_34 (isL d) (c_X1_isKeptAt pr ct lw (b (5 + 7 * d)) (b (7 + 7 * d)) (b (8 + 7 * d)) (b (9 + 7 * d)) (a (10 + 7 * d)) (f (4 + 7 * d)) lt hlt h2 cn hcn h1 (nI 0) (nI 0) (nI 0)) (by decide) rfl rfl (wl_sub pr ct lw a b f (by omega)) (wl_nd (by omega)) (Nat.le_of_ble_eq_true rfl) rfl rfl (Nat.le_of_ble_eq_true rfl) (fun r w1 hp _ => ?_)
        obtain ⟨rfl, hp⟩ := hp
        refine z_norm (w' := WL32 pr ct lw a b f) rfl rfl (wl_put pr ct lw a b f (by omega)) ?_
        rw [← zlt, ← zcn] at hp
        rcases hp with ⟨hK1, rfl⟩ | ⟨hK1, rfl⟩
        · -- 26 T
          refine z_if_eq (tgt := 36) hX dX1_doorsKeptAt_29 (by decide) (fun c => absurd c (by decide)) (fun _ => ?_)
          refine z_iconst (v := nI 1) hX dX1_doorsKeptAt_32 rfl ?_
          refine z_goto (tgt := 37) hX dX1_doorsKeptAt_33 (by decide) ?_
          first | with_reducible refine z_iaddN hX dX1_doorsKeptAt_37 ?_ | refine z_iadd hX dX1_doorsKeptAt_37 ?_
          refine z_istore_n (ls' := [_, _, _, _]) hX dX1_doorsKeptAt_38 (Nat.le_of_ble_eq_true rfl) rfl ?_
          first | refine z_iincN (b := 1) (ls' := [_, _, _, _]) hX dX1_doorsKeptAt_39 rfl rfl rfl ?_ | refine z_iinc (ls' := [_, _, _, _]) hX dX1_doorsKeptAt_39 rfl rfl ?_
          refine z_goto (tgt := 4) hX dX1_doorsKeptAt_42 (by decide) ?_
          exact ih (d + 1) (m + 1) (by omega) (by omega) ⟨m, hm, Or.inl ⟨c_16, hK1, rfl⟩⟩
        · -- 26 F
          refine z_if_eq (tgt := 36) hX dX1_doorsKeptAt_29 (by decide) (fun _ => ?_) (fun c => absurd c (by decide))
          refine z_iconst (v := nI 0) hX dX1_doorsKeptAt_36 rfl ?_
          first | with_reducible refine z_iaddN hX dX1_doorsKeptAt_37 ?_ | refine z_iadd hX dX1_doorsKeptAt_37 ?_
          refine z_istore_n (ls' := [_, _, _, _]) hX dX1_doorsKeptAt_38 (Nat.le_of_ble_eq_true rfl) rfl ?_
          first | refine z_iincN (b := 1) (ls' := [_, _, _, _]) hX dX1_doorsKeptAt_39 rfl rfl rfl ?_ | refine z_iinc (ls' := [_, _, _, _]) hX dX1_doorsKeptAt_39 rfl rfl ?_
          refine z_goto (tgt := 4) hX dX1_doorsKeptAt_42 (by decide) ?_
          exact ih (d + 1) m (by omega) (by omega) ⟨m, hm, Or.inr ⟨Or.inr hK1, rfl⟩⟩
set_option maxHeartbeats 4000000 in
set_option maxRecDepth 100000 in
theorem c_X1_doorsKeptAt (pr ct lw : Nat → Int32) (a : Nat → Nat → Int32) (b : Nat → Nat → Int64) (f : Nat → Nat → Int32) (hokf : okF f) : ∀ l, ZC l yX1_doorsKeptAt cX1_doorsKeptAt 4 (some .int) 3 [.ref 0, .ref 3] (WL32 pr ct lw a b f) (fun r w' => w' = WL32 pr ct lw a b f ∧ ∃ m, dkF lw a b f 4 m ∧ r = some (.int (nI m))) := by
  intro l
  refine zc_intro (oc := 1) (by decide +kernel) rfl (Nat.le_of_ble_eq_true rfl) ?_
  intro X hX hR
  refine z_norm (ls' := [_, _, _, _]) rfl rfl rfl ?_
  refine z_iconst (v := nI 0) hX dX1_doorsKeptAt_0 rfl ?_
  refine z_istore_n (ls' := [_, _, _, _]) hX dX1_doorsKeptAt_1 (Nat.le_of_ble_eq_true rfl) rfl ?_
  refine z_iconst (v := nI 0) hX dX1_doorsKeptAt_2 rfl ?_
  refine z_istore_n (ls' := [_, _, _, _]) hX dX1_doorsKeptAt_3 (Nat.le_of_ble_eq_true rfl) rfl ?_
  exact lp_dk_4 hX hR pr ct lw a b f hokf (fun m e => ⟨rfl, m, e, rfl⟩) 5 0 0 (by omega) (by omega) rfl
theorem cst_3 (pr : Nat → Int32) {c0 c1 c2 : Nat} (h0 : c0 ≤ 10) (h1 : c1 ≤ 10) (h2 : c2 ≤ 10) : cst pr (121 * c0 + 11 * c1 + c2) = nI c0 * pr 0 + nI c1 * pr 1 + nI c2 * pr 2 := by
  unfold cst
  rw [show (121 * c0 + 11 * c1 + c2) / 121 = c0 by omega, show (121 * c0 + 11 * c1 + c2) / 11 % 11 = c1 by omega, show (121 * c0 + 11 * c1 + c2) % 11 = c2 by omega]
set_option maxHeartbeats 4000000 in
set_option maxRecDepth 100000 in
theorem c_X1_offer (pr ct lw : Nat → Int32) (a : Nat → Nat → Int32) (b : Nat → Nat → Int64) (f : Nat → Nat → Int32) (hokf : okF f) (c0 c1 c2 : Nat) (h0 : c0 ≤ 10) (h1 : c1 ≤ 10) (h2 : c2 ≤ 10) : ∀ l, ZC l yX1_offer cX1_offer 5 none 0 [.ref 0, .int (nI c0), .int (nI c1), .int (nI c2)] (WL32 pr ct lw a b f) (fun r w' => r = none ∧ ((lw 0 ≤ cst pr (121 * c0 + 11 * c1 + c2) ∧ w' = WL32 pr ct lw a b f) ∨ (¬ lw 0 ≤ cst pr (121 * c0 + 11 * c1 + c2) ∧ w' = WL32 pr (t3F ct (nI c0) (nI c1) (nI c2)) (va_up lw 0 (cst pr (121 * c0 + 11 * c1 + c2))) a b f))) := by
  intro l
  refine zc_intro (oc := 1) (by decide +kernel) rfl (Nat.le_of_ble_eq_true rfl) ?_
  intro X hX hR
  refine z_norm (ls' := [_, _, _, _, _]) rfl rfl rfl ?_
  refine z_iload_n hX dX1_offer_0 rfl ?_
  refine z_aload_n hX dX1_offer_1 rfl ?_
  refine z_get hX dX1_offer_2 f_1_9 rfl rfl ?_
  refine z_iconst (v := nI 0) hX dX1_offer_5 rfl ?_
  first | refine z_iald hX dX1_offer_6 rfl (by omega) (by decide) ?_ | refine z_stld (nm := "FROM") (xs := zFROM) hX dX1_offer_6 (fun _ _ _ _ h => h.1) (by show _ < 24; omega) (by decide) ?_ | refine z_stld (nm := "TO") (xs := zTO) hX dX1_offer_6 (fun _ _ _ _ h => h.2.1) (by show _ < 24; omega) (by decide) ?_ | refine z_stld (nm := "FALL") (xs := zFALL) hX dX1_offer_6 (fun _ _ _ _ h => h.2.2.1) (by show _ < 81; omega) (by decide) ?_
  first | with_reducible refine z_imulN hX dX1_offer_7 ?_ | refine z_imul hX dX1_offer_7 ?_
  refine z_iload_n hX dX1_offer_8 rfl ?_
  refine z_aload_n hX dX1_offer_9 rfl ?_
  refine z_get hX dX1_offer_10 f_1_9 rfl rfl ?_
  refine z_iconst (v := nI 1) hX dX1_offer_13 rfl ?_
  first | refine z_iald hX dX1_offer_14 rfl (by omega) (by decide) ?_ | refine z_stld (nm := "FROM") (xs := zFROM) hX dX1_offer_14 (fun _ _ _ _ h => h.1) (by show _ < 24; omega) (by decide) ?_ | refine z_stld (nm := "TO") (xs := zTO) hX dX1_offer_14 (fun _ _ _ _ h => h.2.1) (by show _ < 24; omega) (by decide) ?_ | refine z_stld (nm := "FALL") (xs := zFALL) hX dX1_offer_14 (fun _ _ _ _ h => h.2.2.1) (by show _ < 81; omega) (by decide) ?_
  first | with_reducible refine z_imulN hX dX1_offer_15 ?_ | refine z_imul hX dX1_offer_15 ?_
  first | with_reducible refine z_iaddN hX dX1_offer_16 ?_ | refine z_iadd hX dX1_offer_16 ?_
  refine z_iload_n hX dX1_offer_17 rfl ?_
  refine z_aload_n hX dX1_offer_18 rfl ?_
  refine z_get hX dX1_offer_19 f_1_9 rfl rfl ?_
  refine z_iconst (v := nI 2) hX dX1_offer_22 rfl ?_
  first | refine z_iald hX dX1_offer_23 rfl (by omega) (by decide) ?_ | refine z_stld (nm := "FROM") (xs := zFROM) hX dX1_offer_23 (fun _ _ _ _ h => h.1) (by show _ < 24; omega) (by decide) ?_ | refine z_stld (nm := "TO") (xs := zTO) hX dX1_offer_23 (fun _ _ _ _ h => h.2.1) (by show _ < 24; omega) (by decide) ?_ | refine z_stld (nm := "FALL") (xs := zFALL) hX dX1_offer_23 (fun _ _ _ _ h => h.2.2.1) (by show _ < 81; omega) (by decide) ?_
  first | with_reducible refine z_imulN hX dX1_offer_24 ?_ | refine z_imul hX dX1_offer_24 ?_
  first | with_reducible refine z_iaddN hX dX1_offer_25 ?_ | refine z_iadd hX dX1_offer_25 ?_
  refine z_top (cst_3 pr h0 h1 h2).symm ?_
  refine z_istore (ls' := [_, _, _, _, _]) hX dX1_offer_26 (Nat.le_of_ble_eq_true rfl) rfl ?_
  refine z_iload hX dX1_offer_28 rfl ?_
  refine z_aload_n hX dX1_offer_30 rfl ?_
  refine z_get hX dX1_offer_31 f_1_18 rfl rfl ?_
  refine z_icmp_ge (tgt := 64) hX dX1_offer_34 (by decide) (fun c_34 => ?_) (fun c_34 => ?_)
  · -- 34 t
    refine z_vret hX hR dX1_offer_64 ?_
    exact ⟨rfl, Or.inl ⟨c_34, rfl⟩⟩
  · -- 34 f
    refine z_aload_n hX dX1_offer_37 rfl ?_
    refine z_iload hX dX1_offer_38 rfl ?_
    refine z_puti (fs' := [_, _, _, _, _]) (w' := [_, _, _, _, _, _, _, _, _, _, _, _, _, _, _, _, _, _, _, _, _, _, _, _, _, _, _, _, _, _, _, _]) hX dX1_offer_40 p_1_18 rfl (Nat.le_of_ble_eq_true rfl) rfl rfl ?_
    refine z_aload_n hX dX1_offer_43 rfl ?_
    refine z_get hX dX1_offer_44 f_1_15 rfl rfl ?_
    refine z_iconst (v := nI 0) hX dX1_offer_47 rfl ?_
    refine z_iload_n hX dX1_offer_48 rfl ?_
    refine z_iast (w' := [_, _, _, _, _, _, _, _, _, _, _, _, _, _, _, _, _, _, _, _, _, _, _, _, _, _, _, _, _, _, _, _]) hX dX1_offer_49 rfl (by omega) (by decide) rfl ?_
    refine z_aload_n hX dX1_offer_50 rfl ?_
    refine z_get hX dX1_offer_51 f_1_15 rfl rfl ?_
    refine z_iconst (v := nI 1) hX dX1_offer_54 rfl ?_
    refine z_iload_n hX dX1_offer_55 rfl ?_
    refine z_iast (w' := [_, _, _, _, _, _, _, _, _, _, _, _, _, _, _, _, _, _, _, _, _, _, _, _, _, _, _, _, _, _, _, _]) hX dX1_offer_56 rfl (by omega) (by decide) rfl ?_
    refine z_aload_n hX dX1_offer_57 rfl ?_
    refine z_get hX dX1_offer_58 f_1_15 rfl rfl ?_
    refine z_iconst (v := nI 2) hX dX1_offer_61 rfl ?_
    refine z_iload_n hX dX1_offer_62 rfl ?_
    refine z_iast (w' := [_, _, _, _, _, _, _, _, _, _, _, _, _, _, _, _, _, _, _, _, _, _, _, _, _, _, _, _, _, _, _, _]) hX dX1_offer_63 rfl (by omega) (by decide) rfl ?_
    refine z_vret hX hR dX1_offer_64 ?_
    exact ⟨rfl, Or.inr ⟨c_34, rfl⟩⟩
