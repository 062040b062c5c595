/-! ===== the class: law, cheapest ===== -/
theorem okF_of {f : Nat → Nat → Int32} (h : okLg f) : okF (fun p => f (p + 24)) := by
  intro d hd
  obtain ⟨lt, cn, h1, h2, h3, h4⟩ := h d hd
  refine ⟨lt, cn, h1, h2, ?_, ?_⟩
  · show f (4 + 7 * d + 24) 2 = _
    rw [show 4 + 7 * d + 24 = 28 + 7 * d by omega]
    exact h3
  · show f (4 + 7 * d + 24) 1 = _
    rw [show 4 + 7 * d + 24 = 28 + 7 * d by omega]
    exact h4
theorem okLg_up {f : Nat → Nat → Int32} (h : okLg f) (F : Nat → Int32) : okLg (va_up f 56 F) := by
  intro d hd
  rw [va_up_ne _ _ (by omega)]
  exact h d hd
set_option maxHeartbeats 4000000 in
set_option maxRecDepth 100000 in
theorem c_X5_law (a : Nat → Nat → Int32) (b : Nat → Nat → Int64) (f : Nat → Nat → Int32) (g : Nat → Nat → Int64) (hokl : okLg f) (x y : Int32) : ∀ l, ZC l yX5_law cX5_law 3 (some .int) 4 [.ref 0, .int x, .int y] (WB a b f g) (fun r w' => (¬ (zB x 0 1000000000 ∧ zB y 0 100) ∧ r = some (.int (-1)) ∧ w' = WB a b f g) ∨ ∃ m, zB x 0 1000000000 ∧ zB y 0 100 ∧ dkF ((va_up f 56 (va_up (va_up (f 56) 1 x) 2 y)) 56) (fun p => a (p + 24)) (fun p => b (p + 24)) (fun p => (va_up f 56 (va_up (va_up (f 56) 1 x) 2 y)) (p + 24)) 4 m ∧ r = some (.int (nI m)) ∧ w' = WB a b (va_up f 56 (va_up (va_up (f 56) 1 x) 2 y)) g) := by
  intro l
  refine zc_intro (oc := 5) (by decide +kernel) rfl (Nat.le_of_ble_eq_true rfl) ?_
  intro X hX hR
  refine z_norm (ls' := [_, _, _]) rfl rfl rfl ?_
  refine z_iload_n hX dX5_law_0 rfl ?_
  refine z_if_lt (tgt := 20) hX dX5_law_1 (by decide) (fun c_1 => ?_) (fun c_1 => ?_)
  · -- 1 t
    refine z_iconst (v := -1) hX dX5_law_20 rfl ?_
    refine z_iret hX hR dX5_law_21 ?_
    exact Or.inl ⟨fun q => zB_lo (by decide) c_1 q.1, rfl, rfl⟩
  · -- 1 f
    refine z_iload_n hX dX5_law_4 rfl ?_
    refine z_ldc hX dX5_law_5 k_5_166 ?_
    refine z_icmp_gt (tgt := 20) hX dX5_law_7 (by decide) (fun c_7 => ?_) (fun c_7 => ?_)
    · -- 7 t
      refine z_iconst (v := -1) hX dX5_law_20 rfl ?_
      refine z_iret hX hR dX5_law_21 ?_
      exact Or.inl ⟨fun q => zB_hi (h := 1000000000) (by decide) (fun e => absurd c_7 (Int32.not_lt.mpr e)) q.1, rfl, rfl⟩
    · -- 7 f
      refine z_iload_n hX dX5_law_10 rfl ?_
      refine z_if_lt (tgt := 20) hX dX5_law_11 (by decide) (fun c_11 => ?_) (fun c_11 => ?_)
      · -- 11 t
        refine z_iconst (v := -1) hX dX5_law_20 rfl ?_
        refine z_iret hX hR dX5_law_21 ?_
        exact Or.inl ⟨fun q => zB_lo (by decide) c_11 q.2, rfl, rfl⟩
      · -- 11 f
        refine z_iload_n hX dX5_law_14 rfl ?_
        refine z_bipush (v := nI 100) hX dX5_law_15 rfl ?_
        refine z_icmp_le (tgt := 22) hX dX5_law_17 (by decide) (fun c_17 => ?_) (fun c_17 => ?_)
        · -- 17 t
          refine z_aload_n hX dX5_law_22 rfl ?_
          refine z_get hX dX5_law_23 f_5_37 rfl rfl ?_
          refine z_iload_n hX dX5_law_26 rfl ?_
          refine z_puti (fs' := [_, _, _, _, _]) (w' := [_, _, _, _, _, _, _, _, _, _, _, _, _, _, _, _, _, _, _, _, _, _, _, _, _, _, _, _, _, _, _, _, _, _, _, _, _, _, _, _, _, _, _, _, _, _, _, _, _, _, _, _, _, _, _, _, _, _, _]) hX dX5_law_27 p_5_167 rfl (Nat.le_of_ble_eq_true rfl) rfl rfl ?_
          refine z_aload_n hX dX5_law_30 rfl ?_
          refine z_get hX dX5_law_31 f_5_37 rfl rfl ?_
          refine z_iload_n hX dX5_law_34 rfl ?_
          refine z_puti (fs' := [_, _, _, _, _]) (w' := [_, _, _, _, _, _, _, _, _, _, _, _, _, _, _, _, _, _, _, _, _, _, _, _, _, _, _, _, _, _, _, _, _, _, _, _, _, _, _, _, _, _, _, _, _, _, _, _, _, _, _, _, _, _, _, _, _, _, _]) hX dX5_law_35 p_5_170 rfl (Nat.le_of_ble_eq_true rfl) rfl rfl ?_
          refine z_aload_n hX dX5_law_38 rfl ?_
          refine z_get hX dX5_law_39 f_5_37 rfl rfl ?_
          refine z_aload_n hX dX5_law_42 rfl ?_
          refine z_get hX dX5_law_43 f_5_30 rfl rfl ?_
          refine z_norm (w' := WB a b (va_up f 56 (va_up (va_up (f 56) 1 x) 2 y)) g) rfl rfl rfl ?_
          refine z_callV hX dX5_law_46 mv_5_173 isW (c_X1_doorsKeptAt (a 57) (a 58) ((va_up f 56 (va_up (va_up (f 56) 1 x) 2 y)) 56) (fun p => a (p + 24)) (fun p => b (p + 24)) (fun p => (va_up f 56 (va_up (va_up (f 56) 1 x) 2 y)) (p + 24)) (okF_of (okLg_up hokl _))) (by decide) rfl rfl (wb_subW a b (va_up f 56 (va_up (va_up (f 56) 1 x) 2 y)) g) rfl (Nat.le_of_ble_eq_true rfl) rfl rfl (Nat.le_of_ble_eq_true rfl) (fun r w1 hp _ => ?_)
          obtain ⟨rfl, m, hm, rfl⟩ := hp
          refine z_norm (w' := WB a b (va_up f 56 (va_up (va_up (f 56) 1 x) 2 y)) g) rfl rfl (by rw [wb_putW a b (va_up f 56 (va_up (va_up (f 56) 1 x) 2 y)) g, va_up_id, va_up_id]) ?_
          refine z_iret hX hR dX5_law_49 ?_
          exact Or.inr ⟨m, zB_of (h := 1000000000) (by decide) (by decide) c_1 (Int32.not_lt.mp c_7), zB_of (by decide) (by decide) c_11 c_17, hm, rfl, rfl⟩
        · -- 17 f
          refine z_iconst (v := -1) hX dX5_law_20 rfl ?_
          refine z_iret hX hR dX5_law_21 ?_
          exact Or.inl ⟨fun q => zB_hi (by decide) c_17 q.2, rfl, rfl⟩
set_option maxHeartbeats 4000000 in
set_option maxRecDepth 100000 in
theorem c_X5_cheapest (a : Nat → Nat → Int32) (b : Nat → Nat → Int64) (f : Nat → Nat → Int32) (g : Nat → Nat → Int64) (hokl : okLg f) (hpr : ∀ q, q < 3 → zB (a 57 q) 0 1000) (hm1 : ∀ c0 c1 c2, c0 ≤ 10 → c1 < 10 → c2 ≤ 10 → alK (f 56) (fun p => a (p + 24)) (fun p => b (p + 24)) (fun p => f (p + 24)) (nI c0) (nI c1) (nI c2) 4 → alK (f 56) (fun p => a (p + 24)) (fun p => b (p + 24)) (fun p => f (p + 24)) (nI c0) (nI (c1 + 1)) (nI c2) 4) (hm2 : ∀ c0 c1 c2, c0 ≤ 10 → c1 ≤ 10 → c2 < 10 → alK (f 56) (fun p => a (p + 24)) (fun p => b (p + 24)) (fun p => f (p + 24)) (nI c0) (nI c1) (nI c2) 4 → alK (f 56) (fun p => a (p + 24)) (fun p => b (p + 24)) (fun p => f (p + 24)) (nI c0) (nI c1) (nI (c2 + 1)) 4) (x : Int32) : ∀ l, ZC l yX5_cheapest cX5_cheapest 2 (some .int) 5 [.ref 0, .int x] (WB a b f g) (fun r w' => (¬ zJ x 4 ∧ r = some (.int (-1)) ∧ w' = WB a b f g) ∨ ∃ wh lc ct, wh < 4 ∧ x = nI wh ∧ cbI (a 57) (gC (f 56) (fun p => a (p + 24)) (fun p => b (p + 24)) (fun p => f (p + 24))) 1331 lc ct ∧ r = some (.int (if wh = 3 then lc else ct wh)) ∧ w' = WB (va_up a 58 ct) b (va_up f 56 (va_up (f 56) 0 lc)) g) := by
  intro l
  refine zc_intro (oc := 5) (by decide +kernel) rfl (Nat.le_of_ble_eq_true rfl) ?_
  intro X hX hR
  refine z_norm (ls' := [_, _]) rfl rfl rfl ?_
  refine z_iload_n hX dX5_cheapest_0 rfl ?_
  refine z_if_lt (tgt := 9) hX dX5_cheapest_1 (by decide) (fun c_1 => ?_) (fun c_1 => ?_)
  · -- 1 t
    refine z_iconst (v := -1) hX dX5_cheapest_9 rfl ?_
    refine z_iret hX hR dX5_cheapest_10 ?_
    exact Or.inl ⟨zJ_neg (by decide) c_1, rfl, rfl⟩
  · -- 1 f
    refine z_iload_n hX dX5_cheapest_4 rfl ?_
    refine z_iconst (v := nI 3) hX dX5_cheapest_5 rfl ?_
    refine z_icmp_le (tgt := 11) hX dX5_cheapest_6 (by decide) (fun c_6 => ?_) (fun c_6 => ?_)
    · -- 6 t
      obtain ⟨wh, hwh, rfl⟩ := zJ_le2 (by decide) c_1 c_6
      refine z_aload_n hX dX5_cheapest_11 rfl ?_
      refine z_get hX dX5_cheapest_12 f_5_37 rfl rfl ?_
      refine z_aload_n hX dX5_cheapest_15 rfl ?_
      refine z_get hX dX5_cheapest_16 f_5_30 rfl rfl ?_
      refine z_callV hX dX5_cheapest_19 mv_5_180 isW (c_X1_seekCuts (a 57) (a 58) (f 56) (fun p => a (p + 24)) (fun p => b (p + 24)) (fun p => f (p + 24)) (okF_of hokl) hpr hm1 hm2) (by decide) rfl rfl (wb_subW a b f g) rfl (Nat.le_of_ble_eq_true rfl) rfl rfl (Nat.le_of_ble_eq_true rfl) (fun r w1 hp _ => ?_)
      obtain ⟨rfl, lc, ct, rfl, hcb⟩ := hp
      refine z_norm (w' := WB (va_up a 58 ct) b (va_up f 56 (va_up (f 56) 0 lc)) g) rfl rfl (wb_putW a b f g ct _) ?_
      refine z_iload_n hX dX5_cheapest_22 rfl ?_
      refine z_iconst (v := nI 3) hX dX5_cheapest_23 rfl ?_
      first | with_reducible refine z_icmp_neN (tgt := 37) hX dX5_cheapest_24 (by decide) (by omega) (by omega) (fun c_24 => ?_) (fun c_24 => ?_) | refine z_icmp_ne (tgt := 37) hX dX5_cheapest_24 (by decide) (fun c_24 => ?_) (fun c_24 => ?_)
      · -- 24 t
        refine z_aload_n hX dX5_cheapest_37 rfl ?_
        refine z_get hX dX5_cheapest_38 f_5_37 rfl rfl ?_
        refine z_get hX dX5_cheapest_41 f_5_187 rfl rfl ?_
        refine z_iload_n hX dX5_cheapest_44 rfl ?_
        first | refine z_iald hX dX5_cheapest_45 rfl (by omega) (by decide) ?_ | refine z_stld (nm := "FROM") (xs := zFROM) hX dX5_cheapest_45 (fun _ _ _ _ h => h.1) (by show _ < 24; omega) (by decide) ?_ | refine z_stld (nm := "TO") (xs := zTO) hX dX5_cheapest_45 (fun _ _ _ _ h => h.2.1) (by show _ < 24; omega) (by decide) ?_ | refine z_stld (nm := "FALL") (xs := zFALL) hX dX5_cheapest_45 (fun _ _ _ _ h => h.2.2.1) (by show _ < 81; omega) (by decide) ?_
        refine z_iret hX hR dX5_cheapest_46 ?_
        exact Or.inr ⟨wh, lc, ct, hwh, rfl, hcb, by rw [if_neg c_24]; rfl, rfl⟩
      · -- 24 f
        refine z_aload_n hX dX5_cheapest_27 rfl ?_
        refine z_get hX dX5_cheapest_28 f_5_37 rfl rfl ?_
        refine z_get hX dX5_cheapest_31 f_5_184 rfl rfl ?_
        refine z_top (y := lc) rfl ?_
        refine z_goto (tgt := 46) hX dX5_cheapest_34 (by decide) ?_
        refine z_iret hX hR dX5_cheapest_46 ?_
        exact Or.inr ⟨wh, lc, ct, hwh, rfl, hcb, by rw [if_pos c_24], rfl⟩
    · -- 6 f
      refine z_iconst (v := -1) hX dX5_cheapest_9 rfl ?_
      refine z_iret hX hR dX5_cheapest_10 ?_
      exact Or.inl ⟨zJ_gt (by decide) c_6, rfl, rfl⟩
