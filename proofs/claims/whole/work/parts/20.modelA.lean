/-! ===== the reference: winds ===== -/
/-- the reference's world: int rows a, long rows b, by their places; the numbers c -/
def WM (a : Nat → Nat → Int32) (b : Nat → Nat → Int64) (c : Nat → Int32) : ZW := [.inr (6, [.ref 1, .ref 2, .ref 3, .ref 4, .ref 5, .ref 6, .ref 7, .ref 8, .ref 9, .ref 10, .int (c 0), .ref 11, .ref 12, .ref 13, .ref 14, .ref 15, .ref 16, .int (c 1), .int (c 2), .ref 17, .ref 18, .ref 19]), .inl (0, 24, .inl (a 1)), .inl (1, 90, .inr (b 2)), .inl (1, 10, .inr (b 3)), .inl (0, 4, .inl (a 4)), .inl (0, 4, .inl (a 5)), .inl (0, 96, .inl (a 6)), .inl (0, 3, .inl (a 7)), .inl (0, 72, .inl (a 8)), .inl (1, 27, .inr (b 9)), .inl (1, 12, .inr (b 10)), .inl (1, 9, .inr (b 11)), .inl (0, 4, .inl (a 12)), .inl (2, 4, .inl (a 13)), .inl (2, 4, .inl (a 14)), .inl (0, 4, .inl (a 15)), .inl (1, 1200, .inr (b 16)), .inl (0, 3, .inl (a 17)), .inl (0, 3, .inl (a 18)), .inl (0, 4, .inl (a 19))]
set_option maxHeartbeats 4000000 in
set_option maxRecDepth 100000 in
theorem c_X6_in (v lo hi : Int64) (w : ZW) : ∀ l, ZC l yX6_in cX6_in 6 (some .boolean) 0 [.long v, .long lo, .long hi] w (fun r w' => w' = w ∧ ((lo ≤ v ∧ v ≤ hi ∧ r = some (.int (nI 1))) ∨ (¬ (lo ≤ v ∧ v ≤ hi) ∧ r = some (.int (nI 0))))) := by
  intro l
  refine zc_intro (oc := 6) (by decide +kernel) rfl (Nat.le_of_ble_eq_true rfl) ?_
  intro X hX hR
  refine z_norm (ls' := [_, _, _, _, _, _]) rfl rfl rfl ?_
  refine z_lload_n hX dX6_in_0 rfl ?_
  refine z_lload_n hX dX6_in_1 rfl ?_
  refine z_lcmp hX dX6_in_2 ?_
  refine z_lif_lt (tgt := 17) hX dX6_in_3 (by decide) (fun c_3 => ?_) (fun c_3 => ?_)
  · -- 3 t
    refine z_iconst (v := nI 0) hX dX6_in_17 rfl ?_
    refine z_zret hX hR dX6_in_18 (by first | exact Or.inl rfl | exact Or.inr rfl | assumption) ?_
    first | exact ⟨rfl, Or.inl ⟨c_3, c_10, rfl⟩⟩ | exact ⟨rfl, Or.inr ⟨fun q => absurd q.1 (Int64.not_le.mpr c_3), rfl⟩⟩ | exact ⟨rfl, Or.inr ⟨fun q => absurd q.2 (Int64.not_le.mpr c_10), rfl⟩⟩
  · -- 3 f
    refine z_lload_n hX dX6_in_6 rfl ?_
    refine z_lload hX dX6_in_7 rfl ?_
    refine z_lcmp hX dX6_in_9 ?_
    refine z_lif_gt (tgt := 17) hX dX6_in_10 (by decide) (fun c_10 => ?_) (fun c_10 => ?_)
    · -- 10 t
      refine z_iconst (v := nI 0) hX dX6_in_17 rfl ?_
      refine z_zret hX hR dX6_in_18 (by first | exact Or.inl rfl | exact Or.inr rfl | assumption) ?_
      first | exact ⟨rfl, Or.inl ⟨c_3, c_10, rfl⟩⟩ | exact ⟨rfl, Or.inr ⟨fun q => absurd q.1 (Int64.not_le.mpr c_3), rfl⟩⟩ | exact ⟨rfl, Or.inr ⟨fun q => absurd q.2 (Int64.not_le.mpr c_10), rfl⟩⟩
    · -- 10 f
      refine z_iconst (v := nI 1) hX dX6_in_13 rfl ?_
      refine z_goto (tgt := 18) hX dX6_in_14 (by decide) ?_
      refine z_zret hX hR dX6_in_18 (by first | exact Or.inl rfl | exact Or.inr rfl | assumption) ?_
      first | exact ⟨rfl, Or.inl ⟨c_3, c_10, rfl⟩⟩ | exact ⟨rfl, Or.inr ⟨fun q => absurd q.1 (Int64.not_le.mpr c_3), rfl⟩⟩ | exact ⟨rfl, Or.inr ⟨fun q => absurd q.2 (Int64.not_le.mpr c_10), rfl⟩⟩
def boxAtF (x y : Int32) : Int32 := if (0 ≤ x.toInt64 ∧ x.toInt64 ≤ 2) ∧ (0 ≤ y.toInt64 ∧ y.toInt64 ≤ 2) then nI 3 * y + x else nI 9
set_option maxHeartbeats 4000000 in
set_option maxRecDepth 100000 in
theorem c_X6_boxAt (x y : Int32) (w : ZW) : ∀ l, ZC l yX6_boxAt cX6_boxAt 2 (some .int) 1 [.int x, .int y] w (fun r w' => w' = w ∧ r = some (.int (boxAtF x y))) := by
  intro l
  refine zc_intro (oc := 6) (by decide +kernel) rfl (Nat.le_of_ble_eq_true rfl) ?_
  intro X hX hR
  refine z_norm (ls' := [_, _]) rfl rfl rfl ?_
  refine z_iload_n hX dX6_boxAt_0 rfl ?_
  first | with_reducible refine z_i2lN hX dX6_boxAt_1 (by omega) ?_ | refine z_i2l hX dX6_boxAt_1 ?_
  refine z_lconst (v := 0) hX dX6_boxAt_2 rfl ?_
  refine z_ldc2 hX dX6_boxAt_3 k_6_79 ?_
  refine z_callS0 hX dX6_boxAt_6 ms_6_71 (c_X6_in _ _ _ _) (by decide) rfl rfl (Nat.le_of_ble_eq_true rfl) (fun r w1 hp _ => ?_)
  obtain ⟨rfl, ⟨a1, a2, rfl⟩ | ⟨a, rfl⟩⟩ := hp
  · -- 6 T
    refine z_if_eq (tgt := 32) hX dX6_boxAt_9 (by decide) (fun c => absurd c (by decide)) (fun _ => ?_)
    refine z_iload_n hX dX6_boxAt_12 rfl ?_
    first | with_reducible refine z_i2lN hX dX6_boxAt_13 (by omega) ?_ | refine z_i2l hX dX6_boxAt_13 ?_
    refine z_lconst (v := 0) hX dX6_boxAt_14 rfl ?_
    refine z_ldc2 hX dX6_boxAt_15 k_6_79 ?_
    refine z_callS0 hX dX6_boxAt_18 ms_6_71 (c_X6_in _ _ _ _) (by decide) rfl rfl (Nat.le_of_ble_eq_true rfl) (fun r w1 hp _ => ?_)
    obtain ⟨rfl, ⟨b1, b2, rfl⟩ | ⟨b, rfl⟩⟩ := hp
    · -- 18 T
      refine z_if_eq (tgt := 32) hX dX6_boxAt_21 (by decide) (fun c => absurd c (by decide)) (fun _ => ?_)
      refine z_iconst (v := nI 3) hX dX6_boxAt_24 rfl ?_
      refine z_iload_n hX dX6_boxAt_25 rfl ?_
      first | with_reducible refine z_imulN hX dX6_boxAt_26 ?_ | refine z_imul hX dX6_boxAt_26 ?_
      refine z_iload_n hX dX6_boxAt_27 rfl ?_
      first | with_reducible refine z_iaddN hX dX6_boxAt_28 ?_ | refine z_iadd hX dX6_boxAt_28 ?_
      refine z_goto (tgt := 34) hX dX6_boxAt_29 (by decide) ?_
      refine z_iret hX hR dX6_boxAt_34 ?_
      refine ⟨rfl, ?_⟩
      unfold boxAtF
      split
      · rename_i q
        first | rfl | exact absurd q.1 (by assumption) | exact absurd q.2 (by assumption)
      · rename_i q
        first | rfl | exact absurd ⟨⟨by assumption, by assumption⟩, by assumption, by assumption⟩ q
    · -- 18 F
      refine z_if_eq (tgt := 32) hX dX6_boxAt_21 (by decide) (fun _ => ?_) (fun c => absurd c (by decide))
      refine z_bipush (v := nI 9) hX dX6_boxAt_32 rfl ?_
      refine z_iret hX hR dX6_boxAt_34 ?_
      refine ⟨rfl, ?_⟩
      unfold boxAtF
      split
      · rename_i q
        first | rfl | exact absurd q.1 (by assumption) | exact absurd q.2 (by assumption)
      · rename_i q
        first | rfl | exact absurd ⟨⟨by assumption, by assumption⟩, by assumption, by assumption⟩ q
  · -- 6 F
    refine z_if_eq (tgt := 32) hX dX6_boxAt_9 (by decide) (fun _ => ?_) (fun c => absurd c (by decide))
    refine z_bipush (v := nI 9) hX dX6_boxAt_32 rfl ?_
    refine z_iret hX hR dX6_boxAt_34 ?_
    refine ⟨rfl, ?_⟩
    unfold boxAtF
    split
    · rename_i q
      first | rfl | exact absurd q.1 (by assumption) | exact absurd q.2 (by assumption)
    · rename_i q
      first | rfl | exact absurd ⟨⟨by assumption, by assumption⟩, by assumption, by assumption⟩ q
theorem fromOf_ok : ∀ k, k < 24 → (if k < 12 then boxAtF (nI (k % 4) - nI 1) (nI (k / 4)) else boxAtF (nI ((k - 12) % 3)) (nI ((k - 12) / 3) - nI 1)) = nI (zFROM.getD k 0) := by decide +kernel
theorem toOf_ok : ∀ k, k < 24 → (if k < 12 then boxAtF (nI (k % 4)) (nI (k / 4)) else boxAtF (nI ((k - 12) % 3)) (nI ((k - 12) / 3))) = nI (zTO.getD k 0) := by decide +kernel
set_option maxHeartbeats 4000000 in
set_option maxRecDepth 100000 in
theorem c_X6_fromOf (k : Nat) (hk : k < 24) (w : ZW) : ∀ l, ZC l yX6_fromOf cX6_fromOf 1 (some .int) 2 [.int (nI k)] w (fun r w' => w' = w ∧ r = some (.int (nI (zFROM.getD k 0)))) := by
  intro l
  refine zc_intro (oc := 6) (by decide +kernel) rfl (Nat.le_of_ble_eq_true rfl) ?_
  intro X hX hR
  refine z_norm (ls' := [_]) rfl rfl rfl ?_
  refine z_iload_n hX dX6_fromOf_0 rfl ?_
  refine z_bipush (v := nI 12) hX dX6_fromOf_1 rfl ?_
  first | with_reducible refine z_icmp_geN (tgt := 20) hX dX6_fromOf_3 (by decide) (by omega) (by omega) (fun c_3 => ?_) (fun c_3 => ?_) | refine z_icmp_ge (tgt := 20) hX dX6_fromOf_3 (by decide) (fun c_3 => ?_) (fun c_3 => ?_)
  · -- 3 t
    refine z_iload_n hX dX6_fromOf_20 rfl ?_
    refine z_bipush (v := nI 12) hX dX6_fromOf_21 rfl ?_
    first | with_reducible refine z_isubN hX dX6_fromOf_23 (by omega) ?_ | refine z_isub hX dX6_fromOf_23 ?_
    refine z_iconst (v := nI 3) hX dX6_fromOf_24 rfl ?_
    first | with_reducible refine z_iremN hX dX6_fromOf_25 (by omega) (by decide) (by decide) ?_ | refine z_irem hX dX6_fromOf_25 (by decide) ?_
    refine z_iload_n hX dX6_fromOf_26 rfl ?_
    refine z_bipush (v := nI 12) hX dX6_fromOf_27 rfl ?_
    first | with_reducible refine z_isubN hX dX6_fromOf_29 (by omega) ?_ | refine z_isub hX dX6_fromOf_29 ?_
    refine z_iconst (v := nI 3) hX dX6_fromOf_30 rfl ?_
    first | with_reducible refine z_idivN hX dX6_fromOf_31 (by omega) (by decide) (by decide) ?_ | refine z_idiv hX dX6_fromOf_31 (by decide) ?_
    refine z_iconst (v := nI 1) hX dX6_fromOf_32 rfl ?_
    refine z_isub hX dX6_fromOf_33 ?_
    refine z_callS0 hX dX6_fromOf_34 ms_6_81 (c_X6_boxAt _ _ _) (by decide) rfl rfl (Nat.le_of_ble_eq_true rfl) (fun r w1 hp _ => ?_)
    obtain ⟨rfl, rfl⟩ := hp
    refine z_iret hX hR dX6_fromOf_37 ?_
    have hk := fromOf_ok k hk
    first | (rw [if_pos (by omega)] at hk; exact ⟨rfl, by rw [hk]⟩) | (rw [if_neg (by omega)] at hk; exact ⟨rfl, by rw [hk]⟩)
  · -- 3 f
    refine z_iload_n hX dX6_fromOf_6 rfl ?_
    refine z_iconst (v := nI 4) hX dX6_fromOf_7 rfl ?_
    first | with_reducible refine z_iremN hX dX6_fromOf_8 (by omega) (by decide) (by decide) ?_ | refine z_irem hX dX6_fromOf_8 (by decide) ?_
    refine z_iconst (v := nI 1) hX dX6_fromOf_9 rfl ?_
    refine z_isub hX dX6_fromOf_10 ?_
    refine z_iload_n hX dX6_fromOf_11 rfl ?_
    refine z_iconst (v := nI 4) hX dX6_fromOf_12 rfl ?_
    first | with_reducible refine z_idivN hX dX6_fromOf_13 (by omega) (by decide) (by decide) ?_ | refine z_idiv hX dX6_fromOf_13 (by decide) ?_
    refine z_callS0 hX dX6_fromOf_14 ms_6_81 (c_X6_boxAt _ _ _) (by decide) rfl rfl (Nat.le_of_ble_eq_true rfl) (fun r w1 hp _ => ?_)
    obtain ⟨rfl, rfl⟩ := hp
    refine z_goto (tgt := 37) hX dX6_fromOf_17 (by decide) ?_
    refine z_iret hX hR dX6_fromOf_37 ?_
    have hk := fromOf_ok k hk
    first | (rw [if_pos (by omega)] at hk; exact ⟨rfl, by rw [hk]⟩) | (rw [if_neg (by omega)] at hk; exact ⟨rfl, by rw [hk]⟩)
set_option maxHeartbeats 4000000 in
set_option maxRecDepth 100000 in
theorem c_X6_toOf (k : Nat) (hk : k < 24) (w : ZW) : ∀ l, ZC l yX6_toOf cX6_toOf 1 (some .int) 2 [.int (nI k)] w (fun r w' => w' = w ∧ r = some (.int (nI (zTO.getD k 0)))) := by
  intro l
  refine zc_intro (oc := 6) (by decide +kernel) rfl (Nat.le_of_ble_eq_true rfl) ?_
  intro X hX hR
  refine z_norm (ls' := [_]) rfl rfl rfl ?_
  refine z_iload_n hX dX6_toOf_0 rfl ?_
  refine z_bipush (v := nI 12) hX dX6_toOf_1 rfl ?_
  first | with_reducible refine z_icmp_geN (tgt := 18) hX dX6_toOf_3 (by decide) (by omega) (by omega) (fun c_3 => ?_) (fun c_3 => ?_) | refine z_icmp_ge (tgt := 18) hX dX6_toOf_3 (by decide) (fun c_3 => ?_) (fun c_3 => ?_)
  · -- 3 t
    refine z_iload_n hX dX6_toOf_18 rfl ?_
    refine z_bipush (v := nI 12) hX dX6_toOf_19 rfl ?_
    first | with_reducible refine z_isubN hX dX6_toOf_21 (by omega) ?_ | refine z_isub hX dX6_toOf_21 ?_
    refine z_iconst (v := nI 3) hX dX6_toOf_22 rfl ?_
    first | with_reducible refine z_iremN hX dX6_toOf_23 (by omega) (by decide) (by decide) ?_ | refine z_irem hX dX6_toOf_23 (by decide) ?_
    refine z_iload_n hX dX6_toOf_24 rfl ?_
    refine z_bipush (v := nI 12) hX dX6_toOf_25 rfl ?_
    first | with_reducible refine z_isubN hX dX6_toOf_27 (by omega) ?_ | refine z_isub hX dX6_toOf_27 ?_
    refine z_iconst (v := nI 3) hX dX6_toOf_28 rfl ?_
    first | with_reducible refine z_idivN hX dX6_toOf_29 (by omega) (by decide) (by decide) ?_ | refine z_idiv hX dX6_toOf_29 (by decide) ?_
    refine z_callS0 hX dX6_toOf_30 ms_6_81 (c_X6_boxAt _ _ _) (by decide) rfl rfl (Nat.le_of_ble_eq_true rfl) (fun r w1 hp _ => ?_)
    obtain ⟨rfl, rfl⟩ := hp
    refine z_iret hX hR dX6_toOf_33 ?_
    have hk := toOf_ok k hk
    first | (rw [if_pos (by omega)] at hk; exact ⟨rfl, by rw [hk]⟩) | (rw [if_neg (by omega)] at hk; exact ⟨rfl, by rw [hk]⟩)
  · -- 3 f
    refine z_iload_n hX dX6_toOf_6 rfl ?_
    refine z_iconst (v := nI 4) hX dX6_toOf_7 rfl ?_
    first | with_reducible refine z_iremN hX dX6_toOf_8 (by omega) (by decide) (by decide) ?_ | refine z_irem hX dX6_toOf_8 (by decide) ?_
    refine z_iload_n hX dX6_toOf_9 rfl ?_
    refine z_iconst (v := nI 4) hX dX6_toOf_10 rfl ?_
    first | with_reducible refine z_idivN hX dX6_toOf_11 (by omega) (by decide) (by decide) ?_ | refine z_idiv hX dX6_toOf_11 (by decide) ?_
    refine z_callS0 hX dX6_toOf_12 ms_6_81 (c_X6_boxAt _ _ _) (by decide) rfl rfl (Nat.le_of_ble_eq_true rfl) (fun r w1 hp _ => ?_)
    obtain ⟨rfl, rfl⟩ := hp
    refine z_goto (tgt := 33) hX dX6_toOf_15 (by decide) ?_
    refine z_iret hX hR dX6_toOf_33 ?_
    have hk := toOf_ok k hk
    first | (rw [if_pos (by omega)] at hk; exact ⟨rfl, by rw [hk]⟩) | (rw [if_neg (by omega)] at hk; exact ⟨rfl, by rw [hk]⟩)
