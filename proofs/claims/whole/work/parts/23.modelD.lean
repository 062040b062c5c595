/-! ===== the reference: the still net, sheets ===== -/
def HT (wn : Nat → Int32) (q : Nat) : Int64 := if q < 9 then zV (gG wn) 9 q 9 else 0
def stillF (wn : Nat → Int32) (h : Nat → Int64) (k : Nat) : Int64 := 100352 * (wn k).toInt64 + h (zFROM.getD k 0) - h (zTO.getD k 0)
theorem stillF_congr {wn : Nat → Int32} {h h1 : Nat → Int64} (e : ∀ q, q < 10 → h q = h1 q) (k : Nat) : stillF wn h k = stillF wn h1 k := by
  unfold stillF
  rw [e _ (by have := zFROM_le k; omega), e _ (by have := zTO_le k; omega)]
def chF (h : Nat → Int64) (n : Nat) : Int64 := zfold (fun k s => s + (h (zFROM.getD k 0) - h (zTO.getD k 0)) * (h (zFROM.getD k 0) - h (zTO.getD k 0))) n 0
theorem chF_s (h : Nat → Int64) (n : Nat) : chF h (n + 1) = chF h n + (h (zFROM.getD n 0) - h (zTO.getD n 0)) * (h (zFROM.getD n 0) - h (zTO.getD n 0)) := rfl
theorem chF_congr {h h1 : Nat → Int64} (e : ∀ q, q < 10 → h q = h1 q) : ∀ n, chF h n = chF h1 n
  | 0 => rfl
  | n + 1 => by
    have h1 := zFROM_le n
    have h2 := zTO_le n
    rw [chF_s, chF_s, chF_congr e n, e _ (by omega), e _ (by omega)]
set_option maxHeartbeats 4000000 in
set_option maxRecDepth 100000 in
theorem c_X6_stillAt (a : Nat → Nat → Int32) (b : Nat → Nat → Int64) (c : Nat → Int32) (k : Nat) (hk : k < 24) : ∀ l, ZC l yX6_stillAt cX6_stillAt 2 (some .long) 3 [.ref 0, .int (nI k)] (WM a b c) (fun r w' => w' = WM a b c ∧ r = some (.long (stillF (a 1) (b 3) k))) := by
  intro l
  refine zc_intro (oc := 6) (by decide +kernel) rfl (Nat.le_of_ble_eq_true rfl) ?_
  intro X hX hR
  refine z_norm (ls' := [_, _]) rfl rfl rfl ?_
  have hF := zFROM_le k
  have hT := zTO_le k
  refine z_ldc2 hX dX6_stillAt_0 k_6_101 ?_
  refine z_aload_n hX dX6_stillAt_3 rfl ?_
  refine z_get hX dX6_stillAt_4 f_6_7 rfl rfl ?_
  refine z_iload_n hX dX6_stillAt_7 rfl ?_
  first | refine z_iald hX dX6_stillAt_8 rfl (by omega) (by decide) ?_ | refine z_stld (nm := "FROM") (xs := zFROM) hX dX6_stillAt_8 (fun _ _ _ _ h => h.1) (by show _ < 24; omega) (by decide) ?_ | refine z_stld (nm := "TO") (xs := zTO) hX dX6_stillAt_8 (fun _ _ _ _ h => h.2.1) (by show _ < 24; omega) (by decide) ?_ | refine z_stld (nm := "FALL") (xs := zFALL) hX dX6_stillAt_8 (fun _ _ _ _ h => h.2.2.1) (by show _ < 81; omega) (by decide) ?_
  first | with_reducible refine z_i2lN hX dX6_stillAt_9 (by omega) ?_ | refine z_i2l hX dX6_stillAt_9 ?_
  refine z_lmul hX dX6_stillAt_10 ?_
  refine z_aload_n hX dX6_stillAt_11 rfl ?_
  refine z_get hX dX6_stillAt_12 f_6_17 rfl rfl ?_
  refine z_iload_n hX dX6_stillAt_15 rfl ?_
  refine z_callS0 hX dX6_stillAt_16 ms_6_85 (c_X6_fromOf k hk _) (by decide) rfl rfl (Nat.le_of_ble_eq_true rfl) (fun r w1 hp _ => ?_)
  obtain ⟨rfl, rfl⟩ := hp
  refine z_lald hX dX6_stillAt_19 rfl (by omega) (by decide) ?_
  refine z_ladd hX dX6_stillAt_20 ?_
  refine z_aload_n hX dX6_stillAt_21 rfl ?_
  refine z_get hX dX6_stillAt_22 f_6_17 rfl rfl ?_
  refine z_iload_n hX dX6_stillAt_25 rfl ?_
  refine z_callS0 hX dX6_stillAt_26 ms_6_89 (c_X6_toOf k hk _) (by decide) rfl rfl (Nat.le_of_ble_eq_true rfl) (fun r w1 hp _ => ?_)
  obtain ⟨rfl, rfl⟩ := hp
  refine z_lald hX dX6_stillAt_29 rfl (by omega) (by decide) ?_
  refine z_lsub hX dX6_stillAt_30 ?_
  refine z_lret hX hR dX6_stillAt_31 ?_
  exact ⟨rfl, rfl⟩
set_option maxHeartbeats 4000000 in
set_option maxRecDepth 100000 in
theorem c_X6_still (a : Nat → Nat → Int32) (b : Nat → Nat → Int64) (c : Nat → Int32) (hw : ∀ k, k < 24 → zB (a 1 k) (-100) 100) (hb9 : b 3 9 = 0) (x : Int32) : ∀ l, ZC l yX6_still cX6_still 2 (some .long) 5 [.ref 0, .int x] (WM a b c) (fun r w' => (¬ zJ x 24 ∧ r = some (.long (-1000000001)) ∧ w' = WM a b c) ∨ ∃ j m h1, j < 24 ∧ x = nI j ∧ (∀ q, q < 10 → h1 q = HT (a 1) q) ∧ w' = WH a b c m h1 ∧ r = some (.long (stillF (a 1) (HT (a 1)) j))) := by
  intro l
  refine zc_intro (oc := 6) (by decide +kernel) rfl (Nat.le_of_ble_eq_true rfl) ?_
  intro X hX hR
  refine z_norm (ls' := [_, _]) rfl rfl rfl ?_
  refine z_iload_n hX dX6_still_0 rfl ?_
  first | with_reducible refine z_i2lN hX dX6_still_1 (by omega) ?_ | refine z_i2l hX dX6_still_1 ?_
  refine z_lconst (v := 0) hX dX6_still_2 rfl ?_
  refine z_ldc2 hX dX6_still_3 k_6_69 ?_
  refine z_callS0 hX dX6_still_6 ms_6_71 (c_X6_in _ _ _ _) (by decide) rfl rfl (Nat.le_of_ble_eq_true rfl) (fun r w1 hp _ => ?_)
  obtain ⟨rfl, hp⟩ := hp
  rcases zinJ (n := 24) rfl (by decide) hp with ⟨⟨j, hj, rfl⟩, rfl⟩ | ⟨hn_j, rfl⟩
  · -- 6 T
    refine z_if_ne (tgt := 16) hX dX6_still_9 (by decide) (fun _ => ?_) (fun c => absurd c (by decide))
    refine z_aload_n hX dX6_still_16 rfl ?_
    refine z_callV0 hX dX6_still_17 mv_6_105 (c_X6_findHeights a b c hw) (by decide) rfl rfl rfl rfl (Nat.le_of_ble_eq_true rfl) (fun r w1 hp _ => ?_)
    obtain ⟨rfl, m, h1, rfl, e1⟩ := hp
    have e2 : ∀ q, q < 10 → h1 q = HT (a 1) q := fun q hq => by
      rw [e1 q]
      unfold HT
      by_cases e : q < 9
      · rw [if_pos e, if_pos e]
      · rw [if_neg e, if_neg e, show q = 9 by omega, hb9]
    refine z_aload_n hX dX6_still_20 rfl ?_
    refine z_iload_n hX dX6_still_21 rfl ?_
    refine z_callV0 hX dX6_still_22 mv_6_108 (c_X6_stillAt a (va_up (va_up b 2 m) 3 h1) c j hj) (by decide) rfl rfl rfl rfl (Nat.le_of_ble_eq_true rfl) (fun r w1 hp _ => ?_)
    obtain ⟨rfl, rfl⟩ := hp
    refine z_lret hX hR dX6_still_25 ?_
    first | exact Or.inl ⟨hn_j, rfl, rfl⟩ | exact Or.inr ⟨j, m, h1, hj, rfl, e2, rfl, congrArg (fun z => some (Value.long z)) (stillF_congr e2 j)⟩
  · -- 6 F
    refine z_if_ne (tgt := 16) hX dX6_still_9 (by decide) (fun c => absurd c (by decide)) (fun _ => ?_)
    refine z_ldc2 hX dX6_still_12 k_6_103 ?_
    refine z_lret hX hR dX6_still_15 ?_
    first | exact Or.inl ⟨hn_j, rfl, rfl⟩ | exact Or.inr ⟨j, m, h1, hj, rfl, e2, rfl, congrArg (fun z => some (Value.long z)) (stillF_congr e2 j)⟩
set_option maxHeartbeats 4000000 in
set_option maxRecDepth 100000 in
theorem lp_X6_change_8 {X : ZX} {post : Option Value → ZW → Prop} (hX : ZOK X 6 cX6_change 5) (hR : ZRet X (some .long) post) (a : Nat → Nat → Int32) (b : Nat → Nat → Int64) (c : Nat → Int32) (m h : Nat → Int64) (hpost : post (some (.long (chF h 24))) (WH a b c m h)) : ∀ (n k : Nat), k ≤ 24 → 24 < k + n → ZG X 8 [some (.ref 0), some (.long (chF h k)), none, some (.int (nI k)), none, none] [] (WH a b c m h) := by
  intro n
  induction n with
  | zero => intro k z1 z2; omega
  | succ n ih =>
    intro k hk1 hk2
    refine z_iload_n hX dX6_change_8 rfl ?_
    refine z_bipush (v := nI 24) hX dX6_change_9 rfl ?_
    first | with_reducible refine z_icmp_geN (tgt := 49) hX dX6_change_11 (by decide) (by omega) (by omega) (fun c_11 => ?_) (fun c_11 => ?_) | refine z_icmp_ge (tgt := 49) hX dX6_change_11 (by decide) (fun c_11 => ?_) (fun c_11 => ?_)
    · -- 11 t
      have zk : k = 24 := by omega
      subst zk
      refine z_lload_n hX dX6_change_49 rfl ?_
      refine z_lret hX hR dX6_change_50 ?_
      exact hpost
    · -- 11 f
      have hF := zFROM_le k
      have hT := zTO_le k
      refine z_aload_n hX dX6_change_14 rfl ?_
      refine z_get hX dX6_change_15 f_6_17 rfl rfl ?_
      refine z_iload_n hX dX6_change_18 rfl ?_
      refine z_callS0 hX dX6_change_19 ms_6_85 (c_X6_fromOf k (by omega) _) (by decide) rfl rfl (Nat.le_of_ble_eq_true rfl) (fun r w1 hp _ => ?_)
      obtain ⟨rfl, rfl⟩ := hp
      refine z_lald hX dX6_change_22 rfl (by omega) (by decide) ?_
      refine z_aload_n hX dX6_change_23 rfl ?_
      refine z_get hX dX6_change_24 f_6_17 rfl rfl ?_
      refine z_iload_n hX dX6_change_27 rfl ?_
      refine z_callS0 hX dX6_change_28 ms_6_89 (c_X6_toOf k (by omega) _) (by decide) rfl rfl (Nat.le_of_ble_eq_true rfl) (fun r w1 hp _ => ?_)
      obtain ⟨rfl, rfl⟩ := hp
      refine z_lald hX dX6_change_31 rfl (by omega) (by decide) ?_
      refine z_lsub hX dX6_change_32 ?_
      refine z_lstore (ls' := [_, _, _, _, _, _]) hX dX6_change_33 (Nat.le_of_ble_eq_true rfl) rfl ?_
      refine z_lload_n hX dX6_change_35 rfl ?_
      refine z_lload hX dX6_change_36 rfl ?_
      refine z_lload hX dX6_change_38 rfl ?_
      refine z_lmul hX dX6_change_40 ?_
      refine z_ladd hX dX6_change_41 ?_
      refine z_lstore_n (ls' := [_, _, _, _, _, _]) hX dX6_change_42 (Nat.le_of_ble_eq_true rfl) rfl ?_
      first | refine z_iincN (b := 1) (ls' := [_, _, _, _, _, _]) hX dX6_change_43 rfl rfl rfl ?_ | refine z_iinc (ls' := [_, _, _, _, _, _]) hX dX6_change_43 rfl rfl ?_
      refine z_goto (tgt := 8) hX dX6_change_46 (by decide) ?_
      refine z_forget (ls' := [some (.ref 0), some (.long (chF h (k + 1))), none, some (.int (nI (k + 1))), none, none]) ⟨rfl, rfl, rfl, trivial⟩ ?_
      exact ih (k + 1) (by omega) (by omega)
set_option maxHeartbeats 4000000 in
set_option maxRecDepth 100000 in
theorem c_X6_change (a : Nat → Nat → Int32) (b : Nat → Nat → Int64) (c : Nat → Int32) (hw : ∀ k, k < 24 → zB (a 1 k) (-100) 100) (hb9 : b 3 9 = 0) : ∀ l, ZC l yX6_change cX6_change 6 (some .long) 5 [.ref 0] (WM a b c) (fun r w' => ∃ m h1, (∀ q, q < 10 → h1 q = HT (a 1) q) ∧ w' = WH a b c m h1 ∧ r = some (.long (chF (HT (a 1)) 24))) := by
  intro l
  refine zc_intro (oc := 6) (by decide +kernel) rfl (Nat.le_of_ble_eq_true rfl) ?_
  intro X hX hR
  refine z_norm (ls' := [_, _, _, _, _, _]) rfl rfl rfl ?_
  refine z_aload_n hX dX6_change_0 rfl ?_
  refine z_callV0 hX dX6_change_1 mv_6_105 (c_X6_findHeights a b c hw) (by decide) rfl rfl rfl rfl (Nat.le_of_ble_eq_true rfl) (fun r w1 hp _ => ?_)
  obtain ⟨rfl, m, h1, rfl, e1⟩ := hp
  have e2 : ∀ q, q < 10 → h1 q = HT (a 1) q := fun q hq => by
    rw [e1 q]
    unfold HT
    by_cases e : q < 9
    · rw [if_pos e, if_pos e]
    · rw [if_neg e, if_neg e, show q = 9 by omega, hb9]
  refine z_lconst (v := 0) hX dX6_change_4 rfl ?_
  refine z_lstore_n (ls' := [_, _, _, _, _, _]) hX dX6_change_5 (Nat.le_of_ble_eq_true rfl) rfl ?_
  refine z_iconst (v := nI 0) hX dX6_change_6 rfl ?_
  refine z_istore_n (ls' := [_, _, _, _, _, _]) hX dX6_change_7 (Nat.le_of_ble_eq_true rfl) rfl ?_
  exact lp_X6_change_8 hX hR a b c m h1 ⟨m, h1, e2, rfl, congrArg (fun z => some (Value.long z)) (chF_congr e2 24)⟩ 25 0 (by omega) (by omega)
set_option maxHeartbeats 4000000 in
set_option maxRecDepth 100000 in
theorem c_X6_isSheet (x y : Int32) (w : ZW) : ∀ l, ZC l yX6_isSheet cX6_isSheet 2 (some .boolean) 1 [.int x, .int y] w (fun r w' => w' = w ∧ ((zJ x 4 ∧ zJ y 2 ∧ r = some (.int (nI 1))) ∨ (¬ (zJ x 4 ∧ zJ y 2) ∧ r = some (.int (nI 0))))) := by
  intro l
  refine zc_intro (oc := 6) (by decide +kernel) rfl (Nat.le_of_ble_eq_true rfl) ?_
  intro X hX hR
  refine z_norm (ls' := [_, _]) rfl rfl rfl ?_
  refine z_iload_n hX dX6_isSheet_0 rfl ?_
  first | with_reducible refine z_i2lN hX dX6_isSheet_1 (by omega) ?_ | refine z_i2l hX dX6_isSheet_1 ?_
  refine z_lconst (v := 0) hX dX6_isSheet_2 rfl ?_
  refine z_ldc2 hX dX6_isSheet_3 k_6_112 ?_
  refine z_callS0 hX dX6_isSheet_6 ms_6_71 (c_X6_in _ _ _ _) (by decide) rfl rfl (Nat.le_of_ble_eq_true rfl) (fun r w1 hp _ => ?_)
  obtain ⟨rfl, hp⟩ := hp
  rcases zinJ (n := 4) rfl (by decide) hp with ⟨hy_j, rfl⟩ | ⟨hn_j, rfl⟩
  · -- 6 T
    refine z_if_eq (tgt := 26) hX dX6_isSheet_9 (by decide) (fun c => absurd c (by decide)) (fun _ => ?_)
    refine z_iload_n hX dX6_isSheet_12 rfl ?_
    first | with_reducible refine z_i2lN hX dX6_isSheet_13 (by omega) ?_ | refine z_i2l hX dX6_isSheet_13 ?_
    refine z_lconst (v := 0) hX dX6_isSheet_14 rfl ?_
    refine z_lconst (v := 1) hX dX6_isSheet_15 rfl ?_
    refine z_callS0 hX dX6_isSheet_16 ms_6_71 (c_X6_in _ _ _ _) (by decide) rfl rfl (Nat.le_of_ble_eq_true rfl) (fun r w1 hp _ => ?_)
    obtain ⟨rfl, hp⟩ := hp
    rcases zinJ (n := 2) rfl (by decide) hp with ⟨hy_l, rfl⟩ | ⟨hn_l, rfl⟩
    · -- 16 T
      refine z_if_eq (tgt := 26) hX dX6_isSheet_19 (by decide) (fun c => absurd c (by decide)) (fun _ => ?_)
      refine z_iconst (v := nI 1) hX dX6_isSheet_22 rfl ?_
      refine z_goto (tgt := 27) hX dX6_isSheet_23 (by decide) ?_
      refine z_zret hX hR dX6_isSheet_27 (by first | exact Or.inl rfl | exact Or.inr rfl | assumption) ?_
      first | exact ⟨rfl, Or.inl ⟨hy_j, hy_l, rfl⟩⟩ | exact ⟨rfl, Or.inr ⟨fun q => hn_j q.1, rfl⟩⟩ | exact ⟨rfl, Or.inr ⟨fun q => hn_l q.2, rfl⟩⟩
    · -- 16 F
      refine z_if_eq (tgt := 26) hX dX6_isSheet_19 (by decide) (fun _ => ?_) (fun c => absurd c (by decide))
      refine z_iconst (v := nI 0) hX dX6_isSheet_26 rfl ?_
      refine z_zret hX hR dX6_isSheet_27 (by first | exact Or.inl rfl | exact Or.inr rfl | assumption) ?_
      first | exact ⟨rfl, Or.inl ⟨hy_j, hy_l, rfl⟩⟩ | exact ⟨rfl, Or.inr ⟨fun q => hn_j q.1, rfl⟩⟩ | exact ⟨rfl, Or.inr ⟨fun q => hn_l q.2, rfl⟩⟩
  · -- 6 F
    refine z_if_eq (tgt := 26) hX dX6_isSheet_9 (by decide) (fun _ => ?_) (fun c => absurd c (by decide))
    refine z_iconst (v := nI 0) hX dX6_isSheet_26 rfl ?_
    refine z_zret hX hR dX6_isSheet_27 (by first | exact Or.inl rfl | exact Or.inr rfl | assumption) ?_
    first | exact ⟨rfl, Or.inl ⟨hy_j, hy_l, rfl⟩⟩ | exact ⟨rfl, Or.inr ⟨fun q => hn_j q.1, rfl⟩⟩ | exact ⟨rfl, Or.inr ⟨fun q => hn_l q.2, rfl⟩⟩
set_option maxHeartbeats 4000000 in
set_option maxRecDepth 100000 in
theorem c_X6_isDoor (x : Int32) (w : ZW) : ∀ l, ZC l yX6_isDoor cX6_isDoor 1 (some .boolean) 1 [.int x] w (fun r w' => w' = w ∧ ((zJ x 4 ∧ r = some (.int (nI 1))) ∨ (¬ zJ x 4 ∧ r = some (.int (nI 0))))) := by
  intro l
  refine zc_intro (oc := 6) (by decide +kernel) rfl (Nat.le_of_ble_eq_true rfl) ?_
  intro X hX hR
  refine z_norm (ls' := [_]) rfl rfl rfl ?_
  refine z_iload_n hX dX6_isDoor_0 rfl ?_
  first | with_reducible refine z_i2lN hX dX6_isDoor_1 (by omega) ?_ | refine z_i2l hX dX6_isDoor_1 ?_
  refine z_lconst (v := 0) hX dX6_isDoor_2 rfl ?_
  refine z_ldc2 hX dX6_isDoor_3 k_6_112 ?_
  refine z_callS0 hX dX6_isDoor_6 ms_6_71 (c_X6_in _ _ _ _) (by decide) rfl rfl (Nat.le_of_ble_eq_true rfl) (fun r w1 hp _ => ?_)
  obtain ⟨rfl, hp⟩ := hp
  rcases zinJ (n := 4) rfl (by decide) hp with ⟨hy_j, rfl⟩ | ⟨hn_j, rfl⟩
  · -- 6 T
    refine z_zret hX hR dX6_isDoor_9 (by first | exact Or.inl rfl | exact Or.inr rfl | assumption) ?_
    first | exact ⟨rfl, Or.inl ⟨hy_j, rfl⟩⟩ | exact ⟨rfl, Or.inr ⟨hn_j, rfl⟩⟩
  · -- 6 F
    refine z_zret hX hR dX6_isDoor_9 (by first | exact Or.inl rfl | exact Or.inr rfl | assumption) ?_
    first | exact ⟨rfl, Or.inl ⟨hy_j, rfl⟩⟩ | exact ⟨rfl, Or.inr ⟨hn_j, rfl⟩⟩
theorem zJ_of_le {x : Int32} {m : Nat} (h1 : 0 ≤ x) (h2 : x ≤ nI m) (hm : m < 2147483647) : zJ x (m + 1) := by
  rw [zJ_iff (by omega)]
  rw [Int32.le_iff_toInt_le] at h1 h2
  rw [nI_toInt (by omega)] at h2
  have h3 : (0 : Int32).toInt = 0 := rfl
  omega
set_option maxHeartbeats 4000000 in
set_option maxRecDepth 100000 in
theorem lp_X6_sheet_40 {X : ZX} {post : Option Value → ZW → Prop} (hX : ZOK X 6 cX6_sheet 2) (hR : ZRet X (some .int) post) (a : Nat → Nat → Int32) (b : Nat → Nat → Int64) (c : Nat → Int32) (a4 a5 it0 : Nat → Int32) (sn : Nat) (hs : sn < 4) (lv nv : Int32) (hpost : ∀ it, (∀ p, it p = if 24 * sn ≤ p ∧ p < 24 * sn + 24 then 0 else it0 p) → post (some (.int nv)) (WM (va_up (va_up (va_up a 4 a4) 5 a5) 6 it) b c)) : ∀ (n k : Nat) (it : Nat → Int32), k ≤ 24 → 24 < k + n → (∀ p, it p = if 24 * sn ≤ p ∧ p < 24 * sn + k then 0 else it0 p) → ZG X 40 [some (.ref 0), some (.int (nI sn)), some (.int lv), some (.int nv), some (.int (nI k))] [] (WM (va_up (va_up (va_up a 4 a4) 5 a5) 6 it) b c) := by
  intro n
  induction n with
  | zero => intro k it z1 z2; omega
  | succ n ih =>
    intro k it hk1 hk2 hit
    refine z_iload hX dX6_sheet_40 rfl ?_
    refine z_bipush (v := nI 24) hX dX6_sheet_42 rfl ?_
    first | with_reducible refine z_icmp_geN (tgt := 66) hX dX6_sheet_44 (by decide) (by omega) (by omega) (fun c_44 => ?_) (fun c_44 => ?_) | refine z_icmp_ge (tgt := 66) hX dX6_sheet_44 (by decide) (fun c_44 => ?_) (fun c_44 => ?_)
    · -- 44 t
      have zk : k = 24 := by omega
      subst zk
      refine z_iload_n hX dX6_sheet_66 rfl ?_
      refine z_iret hX hR dX6_sheet_67 ?_
      exact hpost it hit
    · -- 44 f
      refine z_aload_n hX dX6_sheet_47 rfl ?_
      refine z_get hX dX6_sheet_48 f_6_26 rfl rfl ?_
      refine z_bipush (v := nI 24) hX dX6_sheet_51 rfl ?_
      refine z_iload_n hX dX6_sheet_53 rfl ?_
      first | with_reducible refine z_imulN hX dX6_sheet_54 ?_ | refine z_imul hX dX6_sheet_54 ?_
      refine z_iload hX dX6_sheet_55 rfl ?_
      first | with_reducible refine z_iaddN hX dX6_sheet_57 ?_ | refine z_iadd hX dX6_sheet_57 ?_
      refine z_iconst (v := nI 0) hX dX6_sheet_58 rfl ?_
      refine z_iast (w' := [_, _, _, _, _, _, _, _, _, _, _, _, _, _, _, _, _, _, _, _]) hX dX6_sheet_59 rfl (by omega) (by decide) rfl ?_
      first | refine z_iincN (b := 1) (ls' := [_, _, _, _, _]) hX dX6_sheet_60 rfl rfl rfl ?_ | refine z_iinc (ls' := [_, _, _, _, _]) hX dX6_sheet_60 rfl rfl ?_
      refine z_goto (tgt := 40) hX dX6_sheet_63 (by decide) ?_
      refine ih (k + 1) (upd it (24 * sn + k) 0) (by omega) (by omega) (fun p => ?_)
      by_cases e : p = 24 * sn + k
      · rw [e, pk_us, if_pos (by omega)]
      · rw [pk_un e, hit p]
        by_cases e2 : 24 * sn ≤ p ∧ p < 24 * sn + k
        · rw [if_pos e2, if_pos (by omega)]
        · rw [if_neg e2, if_neg (by omega)]
set_option maxHeartbeats 4000000 in
set_option maxRecDepth 100000 in
theorem c_X6_sheet (a : Nat → Nat → Int32) (b : Nat → Nat → Int64) (c : Nat → Int32) (x y z : Int32) : ∀ l, ZC l yX6_sheet cX6_sheet 5 (some .int) 2 [.ref 0, .int x, .int y, .int z] (WM a b c) (fun r w' => ((¬ (zJ x 4 ∧ zJ y 2) ∨ ¬ z ≤ nI 24) ∧ r = some (.int (-1)) ∧ w' = WM a b c) ∨ ((zJ x 4 ∧ zJ y 2) ∧ z ≤ nI 24 ∧ ¬ 0 ≤ z ∧ r = some (.int (-14)) ∧ w' = WM a b c) ∨ ∃ s l k it, s < 4 ∧ l < 2 ∧ k < 25 ∧ x = nI s ∧ y = nI l ∧ z = nI k ∧ r = some (.int (nI k)) ∧ (∀ p, it p = if 24 * s ≤ p ∧ p < 24 * s + 24 then 0 else a 6 p) ∧ w' = WM (va_up (va_up (va_up a 4 (upd (a 4) s (nI l))) 5 (upd (a 5) s (nI k))) 6 it) b c) := by
  intro l
  refine zc_intro (oc := 6) (by decide +kernel) rfl (Nat.le_of_ble_eq_true rfl) ?_
  intro X hX hR
  refine z_norm (ls' := [_, _, _, _, _]) rfl rfl rfl ?_
  refine z_iload_n hX dX6_sheet_0 rfl ?_
  refine z_iload_n hX dX6_sheet_1 rfl ?_
  refine z_callS0 hX dX6_sheet_2 ms_6_114 (c_X6_isSheet _ _ _) (by decide) rfl rfl (Nat.le_of_ble_eq_true rfl) (fun r w1 hp _ => ?_)
  obtain ⟨rfl, hp⟩ := hp
  rcases hp with ⟨⟨sn, hs, rfl⟩, ⟨ln, hl, rfl⟩, rfl⟩ | ⟨hnS, rfl⟩
  · -- 2 T
    refine z_if_eq (tgt := 14) hX dX6_sheet_5 (by decide) (fun c => absurd c (by decide)) (fun _ => ?_)
    refine z_iload_n hX dX6_sheet_8 rfl ?_
    refine z_bipush (v := nI 24) hX dX6_sheet_9 rfl ?_
    first | with_reducible refine z_icmp_leN (tgt := 16) hX dX6_sheet_11 (by decide) (by omega) (by omega) (fun c_11 => ?_) (fun c_11 => ?_) | refine z_icmp_le (tgt := 16) hX dX6_sheet_11 (by decide) (fun c_11 => ?_) (fun c_11 => ?_)
    · -- 11 t
      refine z_iload_n hX dX6_sheet_16 rfl ?_
      refine z_if_ge (tgt := 23) hX dX6_sheet_17 (by decide) (fun c_17 => ?_) (fun c_17 => ?_)
      · -- 17 t
        obtain ⟨kn, hkn, rfl⟩ := zJ_of_le c_17 c_11 (by omega)
        refine z_aload_n hX dX6_sheet_23 rfl ?_
        refine z_get hX dX6_sheet_24 f_6_20 rfl rfl ?_
        refine z_iload_n hX dX6_sheet_27 rfl ?_
        refine z_iload_n hX dX6_sheet_28 rfl ?_
        refine z_iast (w' := [_, _, _, _, _, _, _, _, _, _, _, _, _, _, _, _, _, _, _, _]) hX dX6_sheet_29 rfl (by omega) (by decide) rfl ?_
        refine z_aload_n hX dX6_sheet_30 rfl ?_
        refine z_get hX dX6_sheet_31 f_6_23 rfl rfl ?_
        refine z_iload_n hX dX6_sheet_34 rfl ?_
        refine z_iload_n hX dX6_sheet_35 rfl ?_
        refine z_iast (w' := [_, _, _, _, _, _, _, _, _, _, _, _, _, _, _, _, _, _, _, _]) hX dX6_sheet_36 rfl (by omega) (by decide) rfl ?_
        refine z_iconst (v := nI 0) hX dX6_sheet_37 rfl ?_
        refine z_istore (ls' := [_, _, _, _, _]) hX dX6_sheet_38 (Nat.le_of_ble_eq_true rfl) rfl ?_
        exact lp_X6_sheet_40 hX hR a b c _ _ (a 6) sn hs _ _ (fun it e => Or.inr (Or.inr ⟨sn, ln, kn, it, hs, hl, hkn, rfl, rfl, rfl, rfl, e, rfl⟩)) 25 0 (a 6) (by omega) (by omega) (fun p => by rw [if_neg (by omega)])
      · -- 17 f
        refine z_bipush (v := -14) hX dX6_sheet_20 rfl ?_
        refine z_iret hX hR dX6_sheet_22 ?_
        first | exact Or.inl ⟨Or.inl hnS, rfl, rfl⟩ | exact Or.inl ⟨Or.inr c_11, rfl, rfl⟩ | exact Or.inr (Or.inl ⟨⟨⟨sn, hs, rfl⟩, ln, hl, rfl⟩, c_11, c_17, rfl, rfl⟩)
    · -- 11 f
      refine z_iconst (v := -1) hX dX6_sheet_14 rfl ?_
      refine z_iret hX hR dX6_sheet_15 ?_
      first | exact Or.inl ⟨Or.inl hnS, rfl, rfl⟩ | exact Or.inl ⟨Or.inr c_11, rfl, rfl⟩ | exact Or.inr (Or.inl ⟨⟨⟨sn, hs, rfl⟩, ln, hl, rfl⟩, c_11, c_17, rfl, rfl⟩)
  · -- 2 F
    refine z_if_eq (tgt := 14) hX dX6_sheet_5 (by decide) (fun _ => ?_) (fun c => absurd c (by decide))
    refine z_iconst (v := -1) hX dX6_sheet_14 rfl ?_
    refine z_iret hX hR dX6_sheet_15 ?_
    first | exact Or.inl ⟨Or.inl hnS, rfl, rfl⟩ | exact Or.inl ⟨Or.inr c_11, rfl, rfl⟩ | exact Or.inr (Or.inl ⟨⟨⟨sn, hs, rfl⟩, ln, hl, rfl⟩, c_11, c_17, rfl, rfl⟩)
set_option maxHeartbeats 4000000 in
set_option maxRecDepth 100000 in
theorem c_X6_drop (a : Nat → Nat → Int32) (b : Nat → Nat → Int64) (c : Nat → Int32) (x : Int32) : ∀ l, ZC l yX6_drop cX6_drop 2 (some .int) 1 [.ref 0, .int x] (WM a b c) (fun r w' => (¬ zJ x 4 ∧ r = some (.int (-1)) ∧ w' = WM a b c) ∨ ∃ s, s < 4 ∧ x = nI s ∧ ((¬ 0 ≤ a 4 s ∧ r = some (.int (-11)) ∧ w' = WM a b c) ∨ (0 ≤ a 4 s ∧ r = some (.int (a 5 s)) ∧ w' = WM (va_up a 4 (upd (a 4) s (-1))) b c))) := by
  intro l
  refine zc_intro (oc := 6) (by decide +kernel) rfl (Nat.le_of_ble_eq_true rfl) ?_
  intro X hX hR
  refine z_norm (ls' := [_, _]) rfl rfl rfl ?_
  refine z_iload_n hX dX6_drop_0 rfl ?_
  first | with_reducible refine z_i2lN hX dX6_drop_1 (by omega) ?_ | refine z_i2l hX dX6_drop_1 ?_
  refine z_lconst (v := 0) hX dX6_drop_2 rfl ?_
  refine z_ldc2 hX dX6_drop_3 k_6_112 ?_
  refine z_callS0 hX dX6_drop_6 ms_6_71 (c_X6_in _ _ _ _) (by decide) rfl rfl (Nat.le_of_ble_eq_true rfl) (fun r w1 hp _ => ?_)
  obtain ⟨rfl, hp⟩ := hp
  rcases zinJ (n := 4) rfl (by decide) hp with ⟨⟨j, hj, rfl⟩, rfl⟩ | ⟨hn_j, rfl⟩
  · -- 6 T
    refine z_if_ne (tgt := 14) hX dX6_drop_9 (by decide) (fun _ => ?_) (fun c => absurd c (by decide))
    refine z_aload_n hX dX6_drop_14 rfl ?_
    refine z_get hX dX6_drop_15 f_6_20 rfl rfl ?_
    refine z_iload_n hX dX6_drop_18 rfl ?_
    first | refine z_iald hX dX6_drop_19 rfl (by omega) (by decide) ?_ | refine z_stld (nm := "FROM") (xs := zFROM) hX dX6_drop_19 (fun _ _ _ _ h => h.1) (by show _ < 24; omega) (by decide) ?_ | refine z_stld (nm := "TO") (xs := zTO) hX dX6_drop_19 (fun _ _ _ _ h => h.2.1) (by show _ < 24; omega) (by decide) ?_ | refine z_stld (nm := "FALL") (xs := zFALL) hX dX6_drop_19 (fun _ _ _ _ h => h.2.2.1) (by show _ < 81; omega) (by decide) ?_
    refine z_if_ge (tgt := 26) hX dX6_drop_20 (by decide) (fun c_20 => ?_) (fun c_20 => ?_)
    · -- 20 t
      refine z_aload_n hX dX6_drop_26 rfl ?_
      refine z_get hX dX6_drop_27 f_6_20 rfl rfl ?_
      refine z_iload_n hX dX6_drop_30 rfl ?_
      refine z_iconst (v := -1) hX dX6_drop_31 rfl ?_
      refine z_iast (w' := [_, _, _, _, _, _, _, _, _, _, _, _, _, _, _, _, _, _, _, _]) hX dX6_drop_32 rfl (by omega) (by decide) rfl ?_
      refine z_aload_n hX dX6_drop_33 rfl ?_
      refine z_get hX dX6_drop_34 f_6_23 rfl rfl ?_
      refine z_iload_n hX dX6_drop_37 rfl ?_
      first | refine z_iald hX dX6_drop_38 rfl (by omega) (by decide) ?_ | refine z_stld (nm := "FROM") (xs := zFROM) hX dX6_drop_38 (fun _ _ _ _ h => h.1) (by show _ < 24; omega) (by decide) ?_ | refine z_stld (nm := "TO") (xs := zTO) hX dX6_drop_38 (fun _ _ _ _ h => h.2.1) (by show _ < 24; omega) (by decide) ?_ | refine z_stld (nm := "FALL") (xs := zFALL) hX dX6_drop_38 (fun _ _ _ _ h => h.2.2.1) (by show _ < 81; omega) (by decide) ?_
      refine z_iret hX hR dX6_drop_39 ?_
      first | exact Or.inl ⟨hn_j, rfl, rfl⟩ | exact Or.inr ⟨j, hj, rfl, Or.inl ⟨c_20, rfl, rfl⟩⟩ | exact Or.inr ⟨j, hj, rfl, Or.inr ⟨c_20, rfl, rfl⟩⟩
    · -- 20 f
      refine z_bipush (v := -11) hX dX6_drop_23 rfl ?_
      refine z_iret hX hR dX6_drop_25 ?_
      first | exact Or.inl ⟨hn_j, rfl, rfl⟩ | exact Or.inr ⟨j, hj, rfl, Or.inl ⟨c_20, rfl, rfl⟩⟩ | exact Or.inr ⟨j, hj, rfl, Or.inr ⟨c_20, rfl, rfl⟩⟩
  · -- 6 F
    refine z_if_ne (tgt := 14) hX dX6_drop_9 (by decide) (fun c => absurd c (by decide)) (fun _ => ?_)
    refine z_iconst (v := -1) hX dX6_drop_12 rfl ?_
    refine z_iret hX hR dX6_drop_13 ?_
    first | exact Or.inl ⟨hn_j, rfl, rfl⟩ | exact Or.inr ⟨j, hj, rfl, Or.inl ⟨c_20, rfl, rfl⟩⟩ | exact Or.inr ⟨j, hj, rfl, Or.inr ⟨c_20, rfl, rfl⟩⟩
set_option maxHeartbeats 4000000 in
set_option maxRecDepth 100000 in
theorem c_X6_against (a : Nat → Nat → Int32) (b : Nat → Nat → Int64) (c : Nat → Int32) (s : Nat) (hs : s < 4) (y : Int32) : ∀ l, ZC l yX6_against cX6_against 3 (some .int) 1 [.ref 0, .int (nI s), .int y] (WM a b c) (fun r w' => w' = WM a b c ∧ ((a 4 s = y ∧ r = some (.int (nI 0))) ∨ (¬ a 4 s = y ∧ ¬ 0 ≤ a 4 s ∧ r = some (.int (-11))) ∨ (¬ a 4 s = y ∧ 0 ≤ a 4 s ∧ r = some (.int (-12))))) := by
  intro l
  refine zc_intro (oc := 6) (by decide +kernel) rfl (Nat.le_of_ble_eq_true rfl) ?_
  intro X hX hR
  refine z_norm (ls' := [_, _, _]) rfl rfl rfl ?_
  refine z_aload_n hX dX6_against_0 rfl ?_
  refine z_get hX dX6_against_1 f_6_20 rfl rfl ?_
  refine z_iload_n hX dX6_against_4 rfl ?_
  first | refine z_iald hX dX6_against_5 rfl (by omega) (by decide) ?_ | refine z_stld (nm := "FROM") (xs := zFROM) hX dX6_against_5 (fun _ _ _ _ h => h.1) (by show _ < 24; omega) (by decide) ?_ | refine z_stld (nm := "TO") (xs := zTO) hX dX6_against_5 (fun _ _ _ _ h => h.2.1) (by show _ < 24; omega) (by decide) ?_ | refine z_stld (nm := "FALL") (xs := zFALL) hX dX6_against_5 (fun _ _ _ _ h => h.2.2.1) (by show _ < 81; omega) (by decide) ?_
  refine z_iload_n hX dX6_against_6 rfl ?_
  first | with_reducible refine z_icmp_neN (tgt := 14) hX dX6_against_7 (by decide) (by omega) (by omega) (fun c_7 => ?_) (fun c_7 => ?_) | refine z_icmp_ne (tgt := 14) hX dX6_against_7 (by decide) (fun c_7 => ?_) (fun c_7 => ?_)
  · -- 7 t
    refine z_aload_n hX dX6_against_14 rfl ?_
    refine z_get hX dX6_against_15 f_6_20 rfl rfl ?_
    refine z_iload_n hX dX6_against_18 rfl ?_
    first | refine z_iald hX dX6_against_19 rfl (by omega) (by decide) ?_ | refine z_stld (nm := "FROM") (xs := zFROM) hX dX6_against_19 (fun _ _ _ _ h => h.1) (by show _ < 24; omega) (by decide) ?_ | refine z_stld (nm := "TO") (xs := zTO) hX dX6_against_19 (fun _ _ _ _ h => h.2.1) (by show _ < 24; omega) (by decide) ?_ | refine z_stld (nm := "FALL") (xs := zFALL) hX dX6_against_19 (fun _ _ _ _ h => h.2.2.1) (by show _ < 81; omega) (by decide) ?_
    refine z_if_ge (tgt := 28) hX dX6_against_20 (by decide) (fun c_20 => ?_) (fun c_20 => ?_)
    · -- 20 t
      refine z_bipush (v := -12) hX dX6_against_28 rfl ?_
      refine z_iret hX hR dX6_against_30 ?_
      first | exact ⟨rfl, Or.inl ⟨c_7, rfl⟩⟩ | exact ⟨rfl, Or.inr (Or.inl ⟨c_7, c_20, rfl⟩)⟩ | exact ⟨rfl, Or.inr (Or.inr ⟨c_7, c_20, rfl⟩)⟩
    · -- 20 f
      refine z_bipush (v := -11) hX dX6_against_23 rfl ?_
      refine z_goto (tgt := 30) hX dX6_against_25 (by decide) ?_
      refine z_iret hX hR dX6_against_30 ?_
      first | exact ⟨rfl, Or.inl ⟨c_7, rfl⟩⟩ | exact ⟨rfl, Or.inr (Or.inl ⟨c_7, c_20, rfl⟩)⟩ | exact ⟨rfl, Or.inr (Or.inr ⟨c_7, c_20, rfl⟩)⟩
  · -- 7 f
    refine z_iconst (v := nI 0) hX dX6_against_10 rfl ?_
    refine z_goto (tgt := 30) hX dX6_against_11 (by decide) ?_
    refine z_iret hX hR dX6_against_30 ?_
    first | exact ⟨rfl, Or.inl ⟨c_7, rfl⟩⟩ | exact ⟨rfl, Or.inr (Or.inl ⟨c_7, c_20, rfl⟩)⟩ | exact ⟨rfl, Or.inr (Or.inr ⟨c_7, c_20, rfl⟩)⟩
theorem zinS {x : Int32} {n : Nat} {r : Option Value} (hn : n ≤ 24) (hp : (0 ≤ x.toInt64 ∧ x.toInt64 ≤ (nI n - nI 1).toInt64 ∧ r = some (.int (nI 1))) ∨ (¬ (0 ≤ x.toInt64 ∧ x.toInt64 ≤ (nI n - nI 1).toInt64) ∧ r = some (.int (nI 0)))) : (zJ x n ∧ r = some (.int (nI 1))) ∨ (¬ zJ x n ∧ r = some (.int (nI 0))) := by
  refine zinJ ?_ (by omega) hp
  rw [Int32.toInt_toInt64, pk_sub_toInt (by omega) (by omega)]
  omega
def shortF (v : Int32) : Int32 := (v <<< (nI 16 &&& 31)) >>> (nI 16 &&& 31)
set_option maxHeartbeats 4000000 in
set_option maxRecDepth 100000 in
theorem c_X6_item (a : Nat → Nat → Int32) (b : Nat → Nat → Int64) (c : Nat → Int32) (hsz : ∀ k, k < 4 → ∃ n, n ≤ 24 ∧ a 5 k = nI n) (x y i v : Int32) : ∀ l, ZC l yX6_item cX6_item 6 (some .int) 2 [.ref 0, .int x, .int y, .int i, .int v] (WM a b c) (fun r w' => (¬ (zJ x 4 ∧ zJ y 2) ∧ r = some (.int (-1)) ∧ w' = WM a b c) ∨ ∃ s l n, s < 4 ∧ l < 2 ∧ x = nI s ∧ y = nI l ∧ a 5 s = nI n ∧ n ≤ 24 ∧ ((¬ a 4 s = nI l ∧ ¬ 0 ≤ a 4 s ∧ r = some (.int (-11)) ∧ w' = WM a b c) ∨ (¬ a 4 s = nI l ∧ 0 ≤ a 4 s ∧ r = some (.int (-12)) ∧ w' = WM a b c) ∨ (a 4 s = nI l ∧ ¬ zJ i n ∧ r = some (.int (-13)) ∧ w' = WM a b c) ∨ ∃ q, a 4 s = nI l ∧ q < n ∧ i = nI q ∧ r = some (.int (nI 1)) ∧ w' = WM (va_up a 6 (upd (a 6) (24 * s + q) (if l = 0 then shortF v else v))) b c)) := by
  intro l
  refine zc_intro (oc := 6) (by decide +kernel) rfl (Nat.le_of_ble_eq_true rfl) ?_
  intro X hX hR
  refine z_norm (ls' := [_, _, _, _, _, _]) rfl rfl rfl ?_
  refine z_iload_n hX dX6_item_0 rfl ?_
  refine z_iload_n hX dX6_item_1 rfl ?_
  refine z_callS0 hX dX6_item_2 ms_6_114 (c_X6_isSheet _ _ _) (by decide) rfl rfl (Nat.le_of_ble_eq_true rfl) (fun r w1 hp _ => ?_)
  obtain ⟨rfl, hp⟩ := hp
  rcases hp with ⟨⟨sn, hs, rfl⟩, ⟨ln, hl, rfl⟩, rfl⟩ | ⟨hnS, rfl⟩
  · -- 2 T
    obtain ⟨zn, hz1, hz2⟩ := hsz sn hs
    refine z_if_ne (tgt := 10) hX dX6_item_5 (by decide) (fun _ => ?_) (fun c => absurd c (by decide))
    refine z_aload_n hX dX6_item_10 rfl ?_
    refine z_iload_n hX dX6_item_11 rfl ?_
    refine z_iload_n hX dX6_item_12 rfl ?_
    refine z_callV0 hX dX6_item_13 mv_6_118 (c_X6_against a b c sn hs _) (by decide) rfl rfl rfl rfl (Nat.le_of_ble_eq_true rfl) (fun r w1 hp _ => ?_)
    obtain ⟨rfl, ⟨hA, rfl⟩ | ⟨hA, hA2, rfl⟩ | ⟨hA, hA2, rfl⟩⟩ := hp
    · -- 13 case 0
      refine z_istore (ls' := [_, _, _, _, _, _]) hX dX6_item_16 (Nat.le_of_ble_eq_true rfl) rfl ?_
      refine z_iload hX dX6_item_18 rfl ?_
      refine z_if_ge (tgt := 26) hX dX6_item_20 (by decide) (fun c_20 => ?_) (fun c_20 => ?_)
      · -- 20 t
        refine z_iload_n hX dX6_item_26 rfl ?_
        first | with_reducible refine z_i2lN hX dX6_item_27 (by omega) ?_ | refine z_i2l hX dX6_item_27 ?_
        refine z_lconst (v := 0) hX dX6_item_28 rfl ?_
        refine z_aload_n hX dX6_item_29 rfl ?_
        refine z_get hX dX6_item_30 f_6_23 rfl rfl ?_
        refine z_iload_n hX dX6_item_33 rfl ?_
        refine z_iald hX dX6_item_34 rfl (by omega) (by decide) ?_
        rw [hz2]
        refine z_iconst (v := nI 1) hX dX6_item_35 rfl ?_
        refine z_isub hX dX6_item_36 ?_
        refine z_i2l hX dX6_item_37 ?_
        refine z_callS0 hX dX6_item_38 ms_6_71 (c_X6_in _ _ _ _) (by decide) rfl rfl (Nat.le_of_ble_eq_true rfl) (fun r w1 hp _ => ?_)
        obtain ⟨rfl, hp⟩ := hp
        rcases zinS hz1 hp with ⟨⟨qn, hq, rfl⟩, rfl⟩ | ⟨hnq, rfl⟩
        · -- 38 T
          refine z_if_ne (tgt := 47) hX dX6_item_41 (by decide) (fun _ => ?_) (fun c => absurd c (by decide))
          refine z_aload_n hX dX6_item_47 rfl ?_
          refine z_get hX dX6_item_48 f_6_26 rfl rfl ?_
          refine z_bipush (v := nI 24) hX dX6_item_51 rfl ?_
          refine z_iload_n hX dX6_item_53 rfl ?_
          first | with_reducible refine z_imulN hX dX6_item_54 ?_ | refine z_imul hX dX6_item_54 ?_
          refine z_iload_n hX dX6_item_55 rfl ?_
          first | with_reducible refine z_iaddN hX dX6_item_56 ?_ | refine z_iadd hX dX6_item_56 ?_
          refine z_iload_n hX dX6_item_57 rfl ?_
          refine z_if_ne (tgt := 72) hX dX6_item_58 (by decide) (fun c_58 => ?_) (fun c_58 => ?_)
          · -- 58 t
            have c_58 : ¬ ln = 0 := fun q => c_58 (by rw [q]; rfl)
            refine z_iload hX dX6_item_72 rfl ?_
            refine z_iast (w' := [_, _, _, _, _, _, _, _, _, _, _, _, _, _, _, _, _, _, _, _]) hX dX6_item_74 rfl (by omega) (by decide) rfl ?_
            refine z_iconst (v := nI 1) hX dX6_item_75 rfl ?_
            refine z_iret hX hR dX6_item_76 ?_
            first | exact Or.inl ⟨hnS, rfl, rfl⟩ | exact Or.inr ⟨sn, ln, zn, hs, hl, rfl, rfl, hz2, hz1, Or.inl ⟨hA, hA2, rfl, rfl⟩⟩ | exact Or.inr ⟨sn, ln, zn, hs, hl, rfl, rfl, hz2, hz1, Or.inr (Or.inl ⟨hA, hA2, rfl, rfl⟩)⟩ | exact Or.inr ⟨sn, ln, zn, hs, hl, rfl, rfl, hz2, hz1, Or.inr (Or.inr (Or.inl ⟨hA, hnq, rfl, rfl⟩))⟩ | exact Or.inr ⟨sn, ln, zn, hs, hl, rfl, rfl, hz2, hz1, Or.inr (Or.inr (Or.inr ⟨qn, hA, hq, rfl, rfl, by rw [if_pos c_58]; rfl⟩))⟩ | exact Or.inr ⟨sn, ln, zn, hs, hl, rfl, rfl, hz2, hz1, Or.inr (Or.inr (Or.inr ⟨qn, hA, hq, rfl, rfl, by rw [if_neg c_58]; rfl⟩))⟩
          · -- 58 f
            have c_58 : ln = 0 := (nI_eq (by omega) (by omega)).mp c_58
            refine z_iload hX dX6_item_61 rfl ?_
            refine z_bipush (v := nI 16) hX dX6_item_63 rfl ?_
            refine z_ishl hX dX6_item_65 ?_
            refine z_bipush (v := nI 16) hX dX6_item_66 rfl ?_
            refine z_ishr hX dX6_item_68 ?_
            refine z_goto (tgt := 74) hX dX6_item_69 (by decide) ?_
            refine z_iast (w' := [_, _, _, _, _, _, _, _, _, _, _, _, _, _, _, _, _, _, _, _]) hX dX6_item_74 rfl (by omega) (by decide) rfl ?_
            refine z_iconst (v := nI 1) hX dX6_item_75 rfl ?_
            refine z_iret hX hR dX6_item_76 ?_
            first | exact Or.inl ⟨hnS, rfl, rfl⟩ | exact Or.inr ⟨sn, ln, zn, hs, hl, rfl, rfl, hz2, hz1, Or.inl ⟨hA, hA2, rfl, rfl⟩⟩ | exact Or.inr ⟨sn, ln, zn, hs, hl, rfl, rfl, hz2, hz1, Or.inr (Or.inl ⟨hA, hA2, rfl, rfl⟩)⟩ | exact Or.inr ⟨sn, ln, zn, hs, hl, rfl, rfl, hz2, hz1, Or.inr (Or.inr (Or.inl ⟨hA, hnq, rfl, rfl⟩))⟩ | exact Or.inr ⟨sn, ln, zn, hs, hl, rfl, rfl, hz2, hz1, Or.inr (Or.inr (Or.inr ⟨qn, hA, hq, rfl, rfl, by rw [if_pos c_58]; rfl⟩))⟩ | exact Or.inr ⟨sn, ln, zn, hs, hl, rfl, rfl, hz2, hz1, Or.inr (Or.inr (Or.inr ⟨qn, hA, hq, rfl, rfl, by rw [if_neg c_58]; rfl⟩))⟩
        · -- 38 F
          refine z_if_ne (tgt := 47) hX dX6_item_41 (by decide) (fun c => absurd c (by decide)) (fun _ => ?_)
          refine z_bipush (v := -13) hX dX6_item_44 rfl ?_
          refine z_iret hX hR dX6_item_46 ?_
          first | exact Or.inl ⟨hnS, rfl, rfl⟩ | exact Or.inr ⟨sn, ln, zn, hs, hl, rfl, rfl, hz2, hz1, Or.inl ⟨hA, hA2, rfl, rfl⟩⟩ | exact Or.inr ⟨sn, ln, zn, hs, hl, rfl, rfl, hz2, hz1, Or.inr (Or.inl ⟨hA, hA2, rfl, rfl⟩)⟩ | exact Or.inr ⟨sn, ln, zn, hs, hl, rfl, rfl, hz2, hz1, Or.inr (Or.inr (Or.inl ⟨hA, hnq, rfl, rfl⟩))⟩ | exact Or.inr ⟨sn, ln, zn, hs, hl, rfl, rfl, hz2, hz1, Or.inr (Or.inr (Or.inr ⟨qn, hA, hq, rfl, rfl, by rw [if_pos c_58]; rfl⟩))⟩ | exact Or.inr ⟨sn, ln, zn, hs, hl, rfl, rfl, hz2, hz1, Or.inr (Or.inr (Or.inr ⟨qn, hA, hq, rfl, rfl, by rw [if_neg c_58]; rfl⟩))⟩
      · -- 20 f
        exact absurd (by decide) c_20
    · -- 13 case 1
      refine z_istore (ls' := [_, _, _, _, _, _]) hX dX6_item_16 (Nat.le_of_ble_eq_true rfl) rfl ?_
      refine z_iload hX dX6_item_18 rfl ?_
      refine z_if_ge (tgt := 26) hX dX6_item_20 (by decide) (fun c_20 => ?_) (fun c_20 => ?_)
      · -- 20 t
        exact absurd c_20 (by decide)
      · -- 20 f
        refine z_iload hX dX6_item_23 rfl ?_
        refine z_iret hX hR dX6_item_25 ?_
        first | exact Or.inl ⟨hnS, rfl, rfl⟩ | exact Or.inr ⟨sn, ln, zn, hs, hl, rfl, rfl, hz2, hz1, Or.inl ⟨hA, hA2, rfl, rfl⟩⟩ | exact Or.inr ⟨sn, ln, zn, hs, hl, rfl, rfl, hz2, hz1, Or.inr (Or.inl ⟨hA, hA2, rfl, rfl⟩)⟩ | exact Or.inr ⟨sn, ln, zn, hs, hl, rfl, rfl, hz2, hz1, Or.inr (Or.inr (Or.inl ⟨hA, hnq, rfl, rfl⟩))⟩ | exact Or.inr ⟨sn, ln, zn, hs, hl, rfl, rfl, hz2, hz1, Or.inr (Or.inr (Or.inr ⟨qn, hA, hq, rfl, rfl, by rw [if_pos c_58]; rfl⟩))⟩ | exact Or.inr ⟨sn, ln, zn, hs, hl, rfl, rfl, hz2, hz1, Or.inr (Or.inr (Or.inr ⟨qn, hA, hq, rfl, rfl, by rw [if_neg c_58]; rfl⟩))⟩
    · -- 13 case 2
      refine z_istore (ls' := [_, _, _, _, _, _]) hX dX6_item_16 (Nat.le_of_ble_eq_true rfl) rfl ?_
      refine z_iload hX dX6_item_18 rfl ?_
      refine z_if_ge (tgt := 26) hX dX6_item_20 (by decide) (fun c_20 => ?_) (fun c_20 => ?_)
      · -- 20 t
        exact absurd c_20 (by decide)
      · -- 20 f
        refine z_iload hX dX6_item_23 rfl ?_
        refine z_iret hX hR dX6_item_25 ?_
        first | exact Or.inl ⟨hnS, rfl, rfl⟩ | exact Or.inr ⟨sn, ln, zn, hs, hl, rfl, rfl, hz2, hz1, Or.inl ⟨hA, hA2, rfl, rfl⟩⟩ | exact Or.inr ⟨sn, ln, zn, hs, hl, rfl, rfl, hz2, hz1, Or.inr (Or.inl ⟨hA, hA2, rfl, rfl⟩)⟩ | exact Or.inr ⟨sn, ln, zn, hs, hl, rfl, rfl, hz2, hz1, Or.inr (Or.inr (Or.inl ⟨hA, hnq, rfl, rfl⟩))⟩ | exact Or.inr ⟨sn, ln, zn, hs, hl, rfl, rfl, hz2, hz1, Or.inr (Or.inr (Or.inr ⟨qn, hA, hq, rfl, rfl, by rw [if_pos c_58]; rfl⟩))⟩ | exact Or.inr ⟨sn, ln, zn, hs, hl, rfl, rfl, hz2, hz1, Or.inr (Or.inr (Or.inr ⟨qn, hA, hq, rfl, rfl, by rw [if_neg c_58]; rfl⟩))⟩
  · -- 2 F
    refine z_if_ne (tgt := 10) hX dX6_item_5 (by decide) (fun c => absurd c (by decide)) (fun _ => ?_)
    refine z_iconst (v := -1) hX dX6_item_8 rfl ?_
    refine z_iret hX hR dX6_item_9 ?_
    first | exact Or.inl ⟨hnS, rfl, rfl⟩ | exact Or.inr ⟨sn, ln, zn, hs, hl, rfl, rfl, hz2, hz1, Or.inl ⟨hA, hA2, rfl, rfl⟩⟩ | exact Or.inr ⟨sn, ln, zn, hs, hl, rfl, rfl, hz2, hz1, Or.inr (Or.inl ⟨hA, hA2, rfl, rfl⟩)⟩ | exact Or.inr ⟨sn, ln, zn, hs, hl, rfl, rfl, hz2, hz1, Or.inr (Or.inr (Or.inl ⟨hA, hnq, rfl, rfl⟩))⟩ | exact Or.inr ⟨sn, ln, zn, hs, hl, rfl, rfl, hz2, hz1, Or.inr (Or.inr (Or.inr ⟨qn, hA, hq, rfl, rfl, by rw [if_pos c_58]; rfl⟩))⟩ | exact Or.inr ⟨sn, ln, zn, hs, hl, rfl, rfl, hz2, hz1, Or.inr (Or.inr (Or.inr ⟨qn, hA, hq, rfl, rfl, by rw [if_neg c_58]; rfl⟩))⟩
