/-! ===== the class: winds, sheets, sources ===== -/
theorem zB_of {x : Int32} {lo hi : Int} {l h : Int32} (e1 : l.toInt = lo) (e2 : h.toInt = hi) (h1 : ¬ x < l) (h2 : x ≤ h) : zB x lo hi := by
  rw [Int32.lt_iff_toInt_lt] at h1
  rw [Int32.le_iff_toInt_le] at h2
  exact ⟨by omega, by omega⟩
theorem zB_lo {x : Int32} {lo hi : Int} {l : Int32} (e1 : l.toInt = lo) (h1 : x < l) : ¬ zB x lo hi := by
  rw [Int32.lt_iff_toInt_lt] at h1
  exact fun q => by have := q.1; omega
theorem zB_hi {x : Int32} {lo hi : Int} {h : Int32} (e2 : h.toInt = hi) (h2 : ¬ x ≤ h) : ¬ zB x lo hi := by
  rw [Int32.le_iff_toInt_le] at h2
  exact fun q => by have := q.2; omega
set_option maxHeartbeats 4000000 in
set_option maxRecDepth 100000 in
theorem c_X5_wind (a : Nat → Nat → Int32) (b : Nat → Nat → Int64) (f : Nat → Nat → Int32) (g : Nat → Nat → Int64) (x y : Int32) : ∀ l, ZC l yX5_wind cX5_wind 4 (some .int) 2 [.ref 0, .int x, .int y] (WB a b f g) (fun r w' => (¬ (zJ x 24 ∧ zB y (-100) 100) ∧ r = some (.int (-1001)) ∧ w' = WB a b f g) ∨ ∃ j h1 nt1, j < 24 ∧ x = nI j ∧ zB y (-100) 100 ∧ r = some (.int (a 2 j)) ∧ w' = WB (va_up a 2 (upd (a 2) j y)) (va_up (va_up b 3 h1) 4 nt1) f g ∧ (∀ q, q < 9 → h1 q = stF (upd (a 2) j y) q 9) ∧ h1 9 = 0 ∧ ∀ q, nt1 q = if q < 24 then 100352 * ((upd (a 2) j y) q).toInt64 + (h1 (zFROM.getD q 0) - h1 (zTO.getD q 0)) else b 4 q) := by
  intro l
  refine zc_intro (oc := 5) (by decide +kernel) rfl (Nat.le_of_ble_eq_true rfl) ?_
  intro X hX hR
  refine z_norm (ls' := [_, _, _, _]) rfl rfl rfl ?_
  refine z_iload_n hX dX5_wind_0 rfl ?_
  refine z_bipush (v := nI 24) hX dX5_wind_1 rfl ?_
  refine z_callS0 hX dX5_wind_3 ms_5_48 (c_X5_isBelow _ 24 (by decide) _) (by decide) rfl rfl (Nat.le_of_ble_eq_true rfl) (fun r w1 hp _ => ?_)
  obtain ⟨rfl, ⟨⟨j, hj, rfl⟩, rfl⟩ | ⟨hn_j, rfl⟩⟩ := hp
  · -- 3 T
    refine z_if_eq (tgt := 21) hX dX5_wind_6 (by decide) (fun c => absurd c (by decide)) (fun _ => ?_)
    refine z_iload_n hX dX5_wind_9 rfl ?_
    refine z_bipush (v := -100) hX dX5_wind_10 rfl ?_
    refine z_icmp_lt (tgt := 21) hX dX5_wind_12 (by decide) (fun c_12 => ?_) (fun c_12 => ?_)
    · -- 12 t
      refine z_sipush (v := -1001) hX dX5_wind_21 rfl ?_
      refine z_iret hX hR dX5_wind_24 ?_
      exact Or.inl ⟨fun q => zB_lo (by decide) c_12 q.2, rfl, rfl⟩
    · -- 12 f
      refine z_iload_n hX dX5_wind_15 rfl ?_
      refine z_bipush (v := nI 100) hX dX5_wind_16 rfl ?_
      refine z_icmp_le (tgt := 25) hX dX5_wind_18 (by decide) (fun c_18 => ?_) (fun c_18 => ?_)
      · -- 18 t
        refine z_aload_n hX dX5_wind_25 rfl ?_
        refine z_get hX dX5_wind_26 f_5_12 rfl rfl ?_
        refine z_get hX dX5_wind_29 f_5_52 rfl rfl ?_
        refine z_iload_n hX dX5_wind_32 rfl ?_
        first | refine z_iald hX dX5_wind_33 rfl (by omega) (by decide) ?_ | refine z_stld (nm := "FROM") (xs := zFROM) hX dX5_wind_33 (fun _ _ _ _ h => h.1) (by show _ < 24; omega) (by decide) ?_ | refine z_stld (nm := "TO") (xs := zTO) hX dX5_wind_33 (fun _ _ _ _ h => h.2.1) (by show _ < 24; omega) (by decide) ?_ | refine z_stld (nm := "FALL") (xs := zFALL) hX dX5_wind_33 (fun _ _ _ _ h => h.2.2.1) (by show _ < 81; omega) (by decide) ?_
        refine z_istore_n (ls' := [_, _, _, _]) hX dX5_wind_34 (Nat.le_of_ble_eq_true rfl) rfl ?_
        refine z_aload_n hX dX5_wind_35 rfl ?_
        refine z_get hX dX5_wind_36 f_5_12 rfl rfl ?_
        refine z_get hX dX5_wind_39 f_5_52 rfl rfl ?_
        refine z_iload_n hX dX5_wind_42 rfl ?_
        refine z_iload_n hX dX5_wind_43 rfl ?_
        refine z_iast (w' := [_, _, _, _, _, _, _, _, _, _, _, _, _, _, _, _, _, _, _, _, _, _, _, _, _, _, _, _, _, _, _, _, _, _, _, _, _, _, _, _, _, _, _, _, _, _, _, _, _, _, _, _, _, _, _, _, _, _, _]) hX dX5_wind_44 rfl (by omega) (by decide) rfl ?_
        refine z_aload_n hX dX5_wind_45 rfl ?_
        refine z_get hX dX5_wind_46 f_5_12 rfl rfl ?_
        refine z_callV hX dX5_wind_49 mv_5_56 [1, 2, 3, 4] (c_X0_settle (upd (a 2) j y) (b 3) (b 4)) (by decide) rfl rfl rfl rfl (Nat.le_of_ble_eq_true rfl) rfl rfl (Nat.le_of_ble_eq_true rfl) (fun r w1 hp _ => ?_)
        obtain ⟨rfl, h1, nt1, rfl, e1, e2, e3⟩ := hp
        refine z_norm (w' := WB (va_up a 2 (upd (a 2) j y)) (va_up (va_up b 3 h1) 4 nt1) f g) rfl rfl rfl ?_
        refine z_iload_n hX dX5_wind_52 rfl ?_
        refine z_iret hX hR dX5_wind_53 ?_
        exact Or.inr ⟨j, h1, nt1, hj, rfl, zB_of (by decide) (by decide) c_12 c_18, rfl, rfl, e1, e2, e3⟩
      · -- 18 f
        refine z_sipush (v := -1001) hX dX5_wind_21 rfl ?_
        refine z_iret hX hR dX5_wind_24 ?_
        exact Or.inl ⟨fun q => zB_hi (by decide) c_18 q.2, rfl, rfl⟩
  · -- 3 F
    refine z_if_eq (tgt := 21) hX dX5_wind_6 (by decide) (fun _ => ?_) (fun c => absurd c (by decide))
    refine z_sipush (v := -1001) hX dX5_wind_21 rfl ?_
    refine z_iret hX hR dX5_wind_24 ?_
    exact Or.inl ⟨fun q => hn_j q.1, rfl, rfl⟩
set_option maxHeartbeats 4000000 in
set_option maxRecDepth 100000 in
theorem c_X5_gives (a : Nat → Nat → Int32) (b : Nat → Nat → Int64) (f : Nat → Nat → Int32) (g : Nat → Nat → Int64) (x : Int32) : ∀ l, ZC l yX5_gives cX5_gives 2 (some .int) 1 [.ref 0, .int x] (WB a b f g) (fun r w' => w' = WB a b f g ∧ ((¬ zJ x 9 ∧ r = some (.int (-1001))) ∨ ∃ j, j < 9 ∧ x = nI j ∧ r = some (.int (surF (a 2) j)))) := by
  intro l
  refine zc_intro (oc := 5) (by decide +kernel) rfl (Nat.le_of_ble_eq_true rfl) ?_
  intro X hX hR
  refine z_norm (ls' := [_, _]) rfl rfl rfl ?_
  refine z_iload_n hX dX5_gives_0 rfl ?_
  refine z_bipush (v := nI 9) hX dX5_gives_1 rfl ?_
  refine z_callS0 hX dX5_gives_3 ms_5_48 (c_X5_isBelow _ 9 (by decide) _) (by decide) rfl rfl (Nat.le_of_ble_eq_true rfl) (fun r w1 hp _ => ?_)
  obtain ⟨rfl, ⟨⟨j, hj, rfl⟩, rfl⟩ | ⟨hn_j, rfl⟩⟩ := hp
  · -- 3 T
    refine z_if_eq (tgt := 20) hX dX5_gives_6 (by decide) (fun c => absurd c (by decide)) (fun _ => ?_)
    refine z_aload_n hX dX5_gives_9 rfl ?_
    refine z_get hX dX5_gives_10 f_5_12 rfl rfl ?_
    refine z_iload_n hX dX5_gives_13 rfl ?_
    refine z_callV hX dX5_gives_14 mv_5_59 [1, 2, 3, 4] (c_X0_surplus (a 2) (b 3) (b 4) j hj) (by decide) rfl rfl rfl rfl (Nat.le_of_ble_eq_true rfl) rfl rfl (Nat.le_of_ble_eq_true rfl) (fun r w1 hp _ => ?_)
    obtain ⟨rfl, rfl⟩ := hp
    refine z_norm (w' := WB a b f g) rfl rfl rfl ?_
    refine z_goto (tgt := 23) hX dX5_gives_17 (by decide) ?_
    refine z_iret hX hR dX5_gives_23 ?_
    exact ⟨rfl, Or.inr ⟨j, hj, rfl, rfl⟩⟩
  · -- 3 F
    refine z_if_eq (tgt := 20) hX dX5_gives_6 (by decide) (fun _ => ?_) (fun c => absurd c (by decide))
    refine z_sipush (v := -1001) hX dX5_gives_20 rfl ?_
    refine z_iret hX hR dX5_gives_23 ?_
    exact ⟨rfl, Or.inl ⟨hn_j, rfl⟩⟩
set_option maxHeartbeats 4000000 in
set_option maxRecDepth 100000 in
theorem c_X5_still (a : Nat → Nat → Int32) (b : Nat → Nat → Int64) (f : Nat → Nat → Int32) (g : Nat → Nat → Int64) (x : Int32) : ∀ l, ZC l yX5_still cX5_still 2 (some .long) 1 [.ref 0, .int x] (WB a b f g) (fun r w' => w' = WB a b f g ∧ ((¬ zJ x 24 ∧ r = some (.long (-1000000001))) ∨ ∃ j, j < 24 ∧ x = nI j ∧ r = some (.long (b 4 j)))) := by
  intro l
  refine zc_intro (oc := 5) (by decide +kernel) rfl (Nat.le_of_ble_eq_true rfl) ?_
  intro X hX hR
  refine z_norm (ls' := [_, _]) rfl rfl rfl ?_
  refine z_iload_n hX dX5_still_0 rfl ?_
  refine z_bipush (v := nI 24) hX dX5_still_1 rfl ?_
  refine z_callS0 hX dX5_still_3 ms_5_48 (c_X5_isBelow _ 24 (by decide) _) (by decide) rfl rfl (Nat.le_of_ble_eq_true rfl) (fun r w1 hp _ => ?_)
  obtain ⟨rfl, ⟨⟨j, hj, rfl⟩, rfl⟩ | ⟨hn_j, rfl⟩⟩ := hp
  · -- 3 T
    refine z_if_eq (tgt := 21) hX dX5_still_6 (by decide) (fun c => absurd c (by decide)) (fun _ => ?_)
    refine z_aload_n hX dX5_still_9 rfl ?_
    refine z_get hX dX5_still_10 f_5_12 rfl rfl ?_
    refine z_get hX dX5_still_13 f_5_63 rfl rfl ?_
    refine z_iload_n hX dX5_still_16 rfl ?_
    refine z_lald hX dX5_still_17 rfl (by omega) (by decide) ?_
    refine z_goto (tgt := 24) hX dX5_still_18 (by decide) ?_
    refine z_lret hX hR dX5_still_24 ?_
    exact ⟨rfl, Or.inr ⟨j, hj, rfl, rfl⟩⟩
  · -- 3 F
    refine z_if_eq (tgt := 21) hX dX5_still_6 (by decide) (fun _ => ?_) (fun c => absurd c (by decide))
    refine z_ldc2 hX dX5_still_21 k_5_67 ?_
    refine z_lret hX hR dX5_still_24 ?_
    exact ⟨rfl, Or.inl ⟨hn_j, rfl⟩⟩
set_option maxHeartbeats 4000000 in
set_option maxRecDepth 100000 in
theorem c_X5_change (a : Nat → Nat → Int32) (b : Nat → Nat → Int64) (f : Nat → Nat → Int32) (g : Nat → Nat → Int64) : ∀ l, ZC l yX5_change cX5_change 1 (some .long) 2 [.ref 0] (WB a b f g) (fun r w' => w' = WB a b f g ∧ r = some (.long (chF (b 3) 24))) := by
  intro l
  refine zc_intro (oc := 5) (by decide +kernel) rfl (Nat.le_of_ble_eq_true rfl) ?_
  intro X hX hR
  refine z_norm (ls' := [_]) rfl rfl rfl ?_
  refine z_aload_n hX dX5_change_0 rfl ?_
  refine z_get hX dX5_change_1 f_5_12 rfl rfl ?_
  refine z_callV hX dX5_change_4 mv_5_69 [1, 2, 3, 4] (c_X0_squares (a 2) (b 3) (b 4)) (by decide) rfl rfl rfl rfl (Nat.le_of_ble_eq_true rfl) rfl rfl (Nat.le_of_ble_eq_true rfl) (fun r w1 hp _ => ?_)
  obtain ⟨rfl, rfl⟩ := hp
  refine z_norm (w' := WB a b f g) rfl rfl rfl ?_
  refine z_lret hX hR dX5_change_7 ?_
  exact ⟨rfl, rfl⟩
set_option maxHeartbeats 4000000 in
set_option maxRecDepth 100000 in
theorem c_X5_sheet (a : Nat → Nat → Int32) (b : Nat → Nat → Int64) (f : Nat → Nat → Int32) (g : Nat → Nat → Int64) (x y z : Int32) : ∀ l, ZC l yX5_sheet cX5_sheet 4 (some .int) 2 [.ref 0, .int x, .int y, .int z] (WB a b f g) (fun r w' => ((¬ (zJ x 4 ∧ zJ y 2) ∨ ¬ z ≤ nI 24) ∧ r = some (.int (-1)) ∧ w' = WB a b f g) ∨ ((zJ x 4 ∧ zJ y 2) ∧ z ≤ nI 24 ∧ ¬ 0 ≤ z ∧ r = some (.int (-14)) ∧ w' = WB a b f g) ∨ ∃ s l k it F, s < 4 ∧ l < 2 ∧ k < 25 ∧ x = nI s ∧ y = nI l ∧ z = nI k ∧ r = some (.int (nI k)) ∧ (∀ q, q < 24 → it q = 0) ∧ F 0 = nI 1 ∧ F 1 = nI l ∧ F 2 = nI k ∧ w' = WB (va_up a (7 + 2 * s) it) b (va_up f (6 + 2 * s) F) g) := by
  intro l
  refine zc_intro (oc := 5) (by decide +kernel) rfl (Nat.le_of_ble_eq_true rfl) ?_
  intro X hX hR
  refine z_norm (ls' := [_, _, _, _]) rfl rfl rfl ?_
  refine z_iload_n hX dX5_sheet_0 rfl ?_
  refine z_iconst (v := nI 4) hX dX5_sheet_1 rfl ?_
  refine z_callS0 hX dX5_sheet_2 ms_5_48 (c_X5_isBelow _ 4 (by decide) _) (by decide) rfl rfl (Nat.le_of_ble_eq_true rfl) (fun r w1 hp _ => ?_)
  obtain ⟨rfl, ⟨⟨s, hs, rfl⟩, rfl⟩ | ⟨hn_s, rfl⟩⟩ := hp
  · -- 2 T
    refine z_if_eq (tgt := 21) hX dX5_sheet_5 (by decide) (fun c => absurd c (by decide)) (fun _ => ?_)
    refine z_iload_n hX dX5_sheet_8 rfl ?_
    refine z_callS0 hX dX5_sheet_9 ms_5_73 (c_X5_isLane _ _) (by decide) rfl rfl (Nat.le_of_ble_eq_true rfl) (fun r w1 hp _ => ?_)
    obtain ⟨rfl, ⟨⟨l, hl, rfl⟩, rfl⟩ | ⟨hn_l, rfl⟩⟩ := hp
    · -- 9 T
      refine z_if_eq (tgt := 21) hX dX5_sheet_12 (by decide) (fun c => absurd c (by decide)) (fun _ => ?_)
      refine z_iload_n hX dX5_sheet_15 rfl ?_
      refine z_bipush (v := nI 24) hX dX5_sheet_16 rfl ?_
      refine z_icmp_le (tgt := 23) hX dX5_sheet_18 (by decide) (fun c_18 => ?_) (fun c_18 => ?_)
      · -- 18 t
        refine z_iload_n hX dX5_sheet_23 rfl ?_
        refine z_if_ge (tgt := 30) hX dX5_sheet_24 (by decide) (fun c_24 => ?_) (fun c_24 => ?_)
        · -- 24 t
          obtain ⟨kn, hkn, rfl⟩ := zJ_of_le c_24 c_18 (by omega)
          refine z_aload_n hX dX5_sheet_30 rfl ?_
          refine z_get hX dX5_sheet_31 f_5_18 rfl rfl ?_
          refine z_iload_n hX dX5_sheet_34 rfl ?_
          refine z_aald hX dX5_sheet_35 rfl (by decide) (wb_shr (i := s) (by omega)) (Nat.le_of_ble_eq_true rfl) ?_
          refine z_iload_n hX dX5_sheet_36 rfl ?_
          refine z_iload_n hX dX5_sheet_37 rfl ?_
          refine z_callV hX dX5_sheet_38 mv_5_77 (isS s) (c_X3_begin (a (7 + 2 * s)) (f (6 + 2 * s)) _ _) (by decide) rfl rfl (wb_subS a b f g hs) (wb_ndS hs) (Nat.le_of_ble_eq_true rfl) rfl rfl (Nat.le_of_ble_eq_true rfl) (fun r w1 hp _ => ?_)
          obtain ⟨rfl, it, F, rfl, e1, e2, e3, e4⟩ := hp
          refine z_norm (w' := WB (va_up a (7 + 2 * s) it) b (va_up f (6 + 2 * s) F) g) rfl rfl (wb_putS a b f g hs it F) ?_
          refine z_iload_n hX dX5_sheet_41 rfl ?_
          refine z_iret hX hR dX5_sheet_42 ?_
          exact Or.inr (Or.inr ⟨s, l, kn, it, F, hs, hl, hkn, rfl, rfl, rfl, rfl, e1, e2, e3, e4, rfl⟩)
        · -- 24 f
          refine z_bipush (v := -14) hX dX5_sheet_27 rfl ?_
          refine z_iret hX hR dX5_sheet_29 ?_
          exact Or.inr (Or.inl ⟨⟨⟨s, hs, rfl⟩, l, hl, rfl⟩, c_18, c_24, rfl, rfl⟩)
      · -- 18 f
        refine z_iconst (v := -1) hX dX5_sheet_21 rfl ?_
        refine z_iret hX hR dX5_sheet_22 ?_
        exact Or.inl ⟨Or.inr c_18, rfl, rfl⟩
    · -- 9 F
      refine z_if_eq (tgt := 21) hX dX5_sheet_12 (by decide) (fun _ => ?_) (fun c => absurd c (by decide))
      refine z_iconst (v := -1) hX dX5_sheet_21 rfl ?_
      refine z_iret hX hR dX5_sheet_22 ?_
      exact Or.inl ⟨Or.inl (fun q => hn_l q.2), rfl, rfl⟩
  · -- 2 F
    refine z_if_eq (tgt := 21) hX dX5_sheet_5 (by decide) (fun _ => ?_) (fun c => absurd c (by decide))
    refine z_iconst (v := -1) hX dX5_sheet_21 rfl ?_
    refine z_iret hX hR dX5_sheet_22 ?_
    exact Or.inl ⟨Or.inl (fun q => hn_s q.1), rfl, rfl⟩
set_option maxHeartbeats 4000000 in
set_option maxRecDepth 100000 in
theorem c_X5_drop (a : Nat → Nat → Int32) (b : Nat → Nat → Int64) (f : Nat → Nat → Int32) (g : Nat → Nat → Int64) (x : Int32) : ∀ l, ZC l yX5_drop cX5_drop 3 (some .int) 1 [.ref 0, .int x] (WB a b f g) (fun r w' => (¬ zJ x 4 ∧ r = some (.int (-1)) ∧ w' = WB a b f g) ∨ ∃ s, s < 4 ∧ x = nI s ∧ ((f (6 + 2 * s) 0 = 0 ∧ r = some (.int (-11)) ∧ w' = WB a b f g) ∨ (¬ f (6 + 2 * s) 0 = 0 ∧ r = some (.int (f (6 + 2 * s) 2)) ∧ w' = WB a b (va_up f (6 + 2 * s) (va_up (f (6 + 2 * s)) 0 (nI 0))) g))) := by
  intro l
  refine zc_intro (oc := 5) (by decide +kernel) rfl (Nat.le_of_ble_eq_true rfl) ?_
  intro X hX hR
  refine z_norm (ls' := [_, _, _]) rfl rfl rfl ?_
  refine z_iload_n hX dX5_drop_0 rfl ?_
  refine z_iconst (v := nI 4) hX dX5_drop_1 rfl ?_
  refine z_callS0 hX dX5_drop_2 ms_5_48 (c_X5_isBelow _ 4 (by decide) _) (by decide) rfl rfl (Nat.le_of_ble_eq_true rfl) (fun r w1 hp _ => ?_)
  obtain ⟨rfl, ⟨⟨s, hs, rfl⟩, rfl⟩ | ⟨hn_s, rfl⟩⟩ := hp
  · -- 2 T
    refine z_if_ne (tgt := 10) hX dX5_drop_5 (by decide) (fun _ => ?_) (fun c => absurd c (by decide))
    refine z_aload_n hX dX5_drop_10 rfl ?_
    refine z_get hX dX5_drop_11 f_5_18 rfl rfl ?_
    refine z_iload_n hX dX5_drop_14 rfl ?_
    refine z_aald hX dX5_drop_15 rfl (by decide) (wb_shr (i := s) (by omega)) (Nat.le_of_ble_eq_true rfl) ?_
    refine z_astore_n (ls' := [_, _, _]) hX dX5_drop_16 (Nat.le_of_ble_eq_true rfl) rfl ?_
    refine z_aload_n hX dX5_drop_17 rfl ?_
    refine z_get hX dX5_drop_18 f_5_81 (wb_sho a b f g (i := s) (by omega)) rfl ?_
    refine z_if_ne (tgt := 27) hX dX5_drop_21 (by decide) (fun c_21 => ?_) (fun c_21 => ?_)
    · -- 21 t
      refine z_aload_n hX dX5_drop_27 rfl ?_
      refine z_iconst (v := nI 0) hX dX5_drop_28 rfl ?_
      refine z_putz (fs' := [.ref (7 + 2 * s), .int (va_up (f (6 + 2 * s)) 0 (nI 0) 0), .int (va_up (f (6 + 2 * s)) 0 (nI 0) 1), .int (va_up (f (6 + 2 * s)) 0 (nI 0) 2)]) (w' := WB a b (va_up f (6 + 2 * s) (va_up (f (6 + 2 * s)) 0 (nI 0))) g) hX dX5_drop_29 p_5_81 (wb_sho a b f g hs) (Or.inl rfl) (Nat.le_of_ble_eq_true rfl) rfl (wb_shs a b f g hs _) ?_
      refine z_aload_n hX dX5_drop_32 rfl ?_
      refine z_get hX dX5_drop_33 f_5_85 (wb_sho a b _ g hs) rfl ?_
      refine z_top (y := f (6 + 2 * s) 2) (by rw [va_up_self, va_up_ne _ _ (by decide)]) ?_
      refine z_iret hX hR dX5_drop_36 ?_
      exact Or.inr ⟨s, hs, rfl, Or.inr ⟨c_21, rfl, rfl⟩⟩
    · -- 21 f
      refine z_bipush (v := -11) hX dX5_drop_24 rfl ?_
      refine z_iret hX hR dX5_drop_26 ?_
      exact Or.inr ⟨s, hs, rfl, Or.inl ⟨c_21, rfl, rfl⟩⟩
  · -- 2 F
    refine z_if_ne (tgt := 10) hX dX5_drop_5 (by decide) (fun c => absurd c (by decide)) (fun _ => ?_)
    refine z_iconst (v := -1) hX dX5_drop_8 rfl ?_
    refine z_iret hX hR dX5_drop_9 ?_
    exact Or.inl ⟨hn_s, rfl, rfl⟩
theorem va_up_id {α : Type} (f : Nat → α) (k : Nat) : va_up f k (f k) = f := by
  funext j
  by_cases h : j = k
  · rw [h, va_up_self]
  · rw [va_up_ne _ _ h]
set_option maxHeartbeats 4000000 in
set_option maxRecDepth 100000 in
theorem c_X5_item (a : Nat → Nat → Int32) (b : Nat → Nat → Int64) (f : Nat → Nat → Int32) (g : Nat → Nat → Int64) (hsz : ∀ s, s < 4 → ∃ n, n ≤ 24 ∧ f (6 + 2 * s) 2 = nI n) (x y i v : Int32) : ∀ l, ZC l yX5_item cX5_item 6 (some .int) 1 [.ref 0, .int x, .int y, .int i, .int v] (WB a b f g) (fun r w' => (¬ (zJ x 4 ∧ zJ y 2) ∧ r = some (.int (-1)) ∧ w' = WB a b f g) ∨ ∃ s l n, s < 4 ∧ l < 2 ∧ x = nI s ∧ y = nI l ∧ f (6 + 2 * s) 2 = nI n ∧ n ≤ 24 ∧ ((¬ (¬ f (6 + 2 * s) 0 = 0 ∧ f (6 + 2 * s) 1 = nI l) ∧ f (6 + 2 * s) 0 = 0 ∧ r = some (.int (-11)) ∧ w' = WB a b f g) ∨ (¬ (¬ f (6 + 2 * s) 0 = 0 ∧ f (6 + 2 * s) 1 = nI l) ∧ ¬ f (6 + 2 * s) 0 = 0 ∧ r = some (.int (-12)) ∧ w' = WB a b f g) ∨ ((¬ f (6 + 2 * s) 0 = 0 ∧ f (6 + 2 * s) 1 = nI l) ∧ ¬ zJ i n ∧ r = some (.int (-13)) ∧ w' = WB a b f g) ∨ ∃ q, (¬ f (6 + 2 * s) 0 = 0 ∧ f (6 + 2 * s) 1 = nI l) ∧ q < n ∧ i = nI q ∧ r = some (.int (nI 1)) ∧ w' = WB (va_up a (7 + 2 * s) (upd (a (7 + 2 * s)) q (if l = 0 then v.toInt16.toInt32 else v))) b f g)) := by
  intro l
  refine zc_intro (oc := 5) (by decide +kernel) rfl (Nat.le_of_ble_eq_true rfl) ?_
  intro X hX hR
  refine z_norm (ls' := [_, _, _, _, _, _]) rfl rfl rfl ?_
  refine z_iload_n hX dX5_item_0 rfl ?_
  refine z_iconst (v := nI 4) hX dX5_item_1 rfl ?_
  refine z_callS0 hX dX5_item_2 ms_5_48 (c_X5_isBelow _ 4 (by decide) _) (by decide) rfl rfl (Nat.le_of_ble_eq_true rfl) (fun r w1 hp _ => ?_)
  obtain ⟨rfl, ⟨⟨s, hs, rfl⟩, rfl⟩ | ⟨hn_s, rfl⟩⟩ := hp
  · -- 2 T
    refine z_if_eq (tgt := 15) hX dX5_item_5 (by decide) (fun c => absurd c (by decide)) (fun _ => ?_)
    refine z_iload_n hX dX5_item_8 rfl ?_
    refine z_callS0 hX dX5_item_9 ms_5_73 (c_X5_isLane _ _) (by decide) rfl rfl (Nat.le_of_ble_eq_true rfl) (fun r w1 hp _ => ?_)
    obtain ⟨rfl, ⟨⟨l, hl, rfl⟩, rfl⟩ | ⟨hn_l, rfl⟩⟩ := hp
    · -- 9 T
      obtain ⟨zn, hz1, hz2⟩ := hsz s hs
      refine z_if_ne (tgt := 17) hX dX5_item_12 (by decide) (fun _ => ?_) (fun c => absurd c (by decide))
      refine z_aload_n hX dX5_item_17 rfl ?_
      refine z_get hX dX5_item_18 f_5_18 rfl rfl ?_
      refine z_iload_n hX dX5_item_21 rfl ?_
      refine z_aald hX dX5_item_22 rfl (by decide) (wb_shr (i := s) (by omega)) (Nat.le_of_ble_eq_true rfl) ?_
      refine z_astore (ls' := [_, _, _, _, _, _]) hX dX5_item_23 (Nat.le_of_ble_eq_true rfl) rfl ?_
      refine z_aload hX dX5_item_25 rfl ?_
      refine z_iload_n hX dX5_item_27 rfl ?_
      refine z_callV hX dX5_item_28 mv_5_88 (isS s) (c_X3_isOf (a (7 + 2 * s)) (f (6 + 2 * s)) _) (by decide) rfl rfl (wb_subS a b f g hs) (wb_ndS hs) (Nat.le_of_ble_eq_true rfl) rfl rfl (Nat.le_of_ble_eq_true rfl) (fun r w1 hp _ => ?_)
      obtain ⟨rfl, hp⟩ := hp
      refine z_norm (w' := WB a b f g) rfl rfl (by rw [wb_putS a b f g hs, va_up_id, va_up_id]) ?_
      rcases hp with ⟨hO, rfl⟩ | ⟨hO, rfl⟩
      · -- 28 T
        refine z_if_ne (tgt := 50) hX dX5_item_31 (by decide) (fun _ => ?_) (fun c => absurd c (by decide))
        refine z_iload_n hX dX5_item_50 rfl ?_
        refine z_aload hX dX5_item_51 rfl ?_
        refine z_get hX dX5_item_53 f_5_85 (wb_sho a b f g (i := s) (by omega)) rfl ?_
        refine z_top hz2 ?_
        refine z_callS0 hX dX5_item_56 ms_5_48 (c_X5_isBelow _ zn (by omega) _) (by decide) rfl rfl (Nat.le_of_ble_eq_true rfl) (fun r w1 hp _ => ?_)
        obtain ⟨rfl, ⟨⟨q, hq, rfl⟩, rfl⟩ | ⟨hn_q, rfl⟩⟩ := hp
        · -- 56 T
          refine z_if_ne (tgt := 65) hX dX5_item_59 (by decide) (fun _ => ?_) (fun c => absurd c (by decide))
          refine z_aload hX dX5_item_65 rfl ?_
          refine z_get hX dX5_item_67 f_5_91 (wb_sho a b f g (i := s) (by omega)) rfl ?_
          refine z_iload_n hX dX5_item_70 rfl ?_
          refine z_iload_n hX dX5_item_71 rfl ?_
          refine z_if_ne (tgt := 81) hX dX5_item_72 (by decide) (fun c_72 => ?_) (fun c_72 => ?_)
          · -- 72 t
            have c_72 : ¬ l = 0 := fun q => c_72 (by rw [q]; rfl)
            refine z_iload hX dX5_item_81 rfl ?_
            refine z_iast (w' := WB (va_up a (7 + 2 * s) (upd (a (7 + 2 * s)) q (if l = 0 then v.toInt16.toInt32 else v))) b f g) hX dX5_item_83 (wb_shi a b f g hs) (by omega) (by decide) (by rw [if_neg c_72]; exact wb_shj a b f g hs _) ?_
            refine z_iconst (v := nI 1) hX dX5_item_84 rfl ?_
            refine z_iret hX hR dX5_item_85 ?_
            exact Or.inr ⟨s, l, zn, hs, hl, rfl, rfl, hz2, hz1, Or.inr (Or.inr (Or.inr ⟨q, hO, hq, rfl, rfl, rfl⟩))⟩
          · -- 72 f
            have c_72 : l = 0 := (nI_eq (by omega) (by omega)).mp c_72
            refine z_iload hX dX5_item_75 rfl ?_
            refine z_i2s hX dX5_item_77 ?_
            refine z_goto (tgt := 83) hX dX5_item_78 (by decide) ?_
            refine z_iast (w' := WB (va_up a (7 + 2 * s) (upd (a (7 + 2 * s)) q (if l = 0 then v.toInt16.toInt32 else v))) b f g) hX dX5_item_83 (wb_shi a b f g hs) (by omega) (by decide) (by rw [if_pos c_72]; exact wb_shj a b f g hs _) ?_
            refine z_iconst (v := nI 1) hX dX5_item_84 rfl ?_
            refine z_iret hX hR dX5_item_85 ?_
            exact Or.inr ⟨s, l, zn, hs, hl, rfl, rfl, hz2, hz1, Or.inr (Or.inr (Or.inr ⟨q, hO, hq, rfl, rfl, rfl⟩))⟩
        · -- 56 F
          refine z_if_ne (tgt := 65) hX dX5_item_59 (by decide) (fun c => absurd c (by decide)) (fun _ => ?_)
          refine z_bipush (v := -13) hX dX5_item_62 rfl ?_
          refine z_iret hX hR dX5_item_64 ?_
          exact Or.inr ⟨s, l, zn, hs, hl, rfl, rfl, hz2, hz1, Or.inr (Or.inr (Or.inl ⟨hO, hn_q, rfl, rfl⟩))⟩
      · -- 28 F
        refine z_if_ne (tgt := 50) hX dX5_item_31 (by decide) (fun c => absurd c (by decide)) (fun _ => ?_)
        refine z_aload hX dX5_item_34 rfl ?_
        refine z_get hX dX5_item_36 f_5_81 (wb_sho a b f g (i := s) (by omega)) rfl ?_
        refine z_if_eq (tgt := 47) hX dX5_item_39 (by decide) (fun c_39 => ?_) (fun c_39 => ?_)
        · -- 39 t
          refine z_bipush (v := -11) hX dX5_item_47 rfl ?_
          refine z_iret hX hR dX5_item_49 ?_
          exact Or.inr ⟨s, l, zn, hs, hl, rfl, rfl, hz2, hz1, Or.inl ⟨hO, c_39, rfl, rfl⟩⟩
        · -- 39 f
          refine z_bipush (v := -12) hX dX5_item_42 rfl ?_
          refine z_goto (tgt := 49) hX dX5_item_44 (by decide) ?_
          refine z_iret hX hR dX5_item_49 ?_
          exact Or.inr ⟨s, l, zn, hs, hl, rfl, rfl, hz2, hz1, Or.inr (Or.inl ⟨hO, c_39, rfl, rfl⟩)⟩
    · -- 9 F
      refine z_if_ne (tgt := 17) hX dX5_item_12 (by decide) (fun c => absurd c (by decide)) (fun _ => ?_)
      refine z_iconst (v := -1) hX dX5_item_15 rfl ?_
      refine z_iret hX hR dX5_item_16 ?_
      exact Or.inl ⟨fun q => hn_l q.2, rfl, rfl⟩
  · -- 2 F
    refine z_if_eq (tgt := 15) hX dX5_item_5 (by decide) (fun _ => ?_) (fun c => absurd c (by decide))
    refine z_iconst (v := -1) hX dX5_item_15 rfl ?_
    refine z_iret hX hR dX5_item_16 ?_
    exact Or.inl ⟨fun q => hn_s q.1, rfl, rfl⟩
