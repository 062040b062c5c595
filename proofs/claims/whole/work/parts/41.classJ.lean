/-! ===== the class: what the doors have kept, the law ===== -/
def okLg (f : Nat → Nat → Int32) : Prop := ∀ d, d < 4 → ∃ lt cn, lt < 100 ∧ cn ≤ 100 ∧ f (28 + 7 * d) 2 = nI lt ∧ f (28 + 7 * d) 1 = nI cn
theorem wb_q3 {d k : Nat} (hk : k < 3) : ([.ref (31 + 7 * d), .ref (32 + 7 * d), .ref (33 + 7 * d)] : List Value)[k]? = some (.ref (31 + 7 * d + k)) := by
  rcases z3 hk with rfl | rfl | rfl
  · rfl
  · show some (Value.ref (32 + 7 * d)) = _
    rw [show 31 + 7 * d + 1 = 32 + 7 * d by omega]
  · show some (Value.ref (33 + 7 * d)) = _
    rw [show 31 + 7 * d + 2 = 33 + 7 * d by omega]
set_option maxHeartbeats 4000000 in
set_option maxRecDepth 100000 in
theorem c_X5_hour (a : Nat → Nat → Int32) (b : Nat → Nat → Int64) (f : Nat → Nat → Int32) (g : Nat → Nat → Int64) (hokl : okLg f) (x y z : Int32) : ∀ l, ZC l yX5_hour cX5_hour 6 (some .long) 1 [.ref 0, .int x, .int y, .int z] (WB a b f g) (fun r w' => w' = WB a b f g ∧ ((¬ zJ x 4 ∧ r = some (.long (-1))) ∨ ∃ d lt cn, d < 4 ∧ lt < 100 ∧ cn ≤ 100 ∧ x = nI d ∧ f (28 + 7 * d) 2 = nI lt ∧ f (28 + 7 * d) 1 = nI cn ∧ ((¬ (zJ y cn ∧ zJ z 4) ∧ r = some (.long (-1))) ∨ ∃ j k, j < cn ∧ k < 4 ∧ y = nI j ∧ z = nI k ∧ r = some (.long (if a (34 + 7 * d) (slF lt j) = 0 then (if k = 3 then b (29 + 7 * d) (slF lt j) else b (31 + 7 * d + k) (slF lt j)) else -4))))) := by
  intro l
  refine zc_intro (oc := 5) (by decide +kernel) rfl (Nat.le_of_ble_eq_true rfl) ?_
  intro X hX hR
  refine z_norm (ls' := [_, _, _, _, _, _]) rfl rfl rfl ?_
  refine z_iload_n hX dX5_hour_0 rfl ?_
  refine z_iconst (v := nI 4) hX dX5_hour_1 rfl ?_
  refine z_callS0 hX dX5_hour_2 ms_5_48 (c_X5_isBelow _ 4 (by decide) _) (by decide) rfl rfl (Nat.le_of_ble_eq_true rfl) (fun r w1 hp _ => ?_)
  obtain ⟨rfl, ⟨⟨d, hd, rfl⟩, rfl⟩ | ⟨hn_d, rfl⟩⟩ := hp
  · -- 2 T
    obtain ⟨lt, cn, hlt, hcn, h2, h1⟩ := hokl d hd
    refine z_if_eq (tgt := 33) hX dX5_hour_5 (by decide) (fun c => absurd c (by decide)) (fun _ => ?_)
    refine z_iload_n hX dX5_hour_8 rfl ?_
    refine z_aload_n hX dX5_hour_9 rfl ?_
    refine z_get hX dX5_hour_10 f_5_30 rfl rfl ?_
    refine z_iload_n hX dX5_hour_13 rfl ?_
    refine z_aald hX dX5_hour_14 rfl (by decide) (wb_lgr (d := d) (by omega)) (Nat.le_of_ble_eq_true rfl) ?_
    refine z_get hX dX5_hour_15 f_5_130 (wb_lgo a b f g hd) rfl ?_
    refine z_top h1 ?_
    refine z_callS0 hX dX5_hour_18 ms_5_48 (c_X5_isBelow _ cn (by omega) _) (by decide) rfl rfl (Nat.le_of_ble_eq_true rfl) (fun r w1 hp _ => ?_)
    obtain ⟨rfl, ⟨⟨j, hj, rfl⟩, rfl⟩ | ⟨hn_j, rfl⟩⟩ := hp
    · -- 18 T
      refine z_if_eq (tgt := 33) hX dX5_hour_21 (by decide) (fun c => absurd c (by decide)) (fun _ => ?_)
      refine z_iload_n hX dX5_hour_24 rfl ?_
      refine z_if_lt (tgt := 33) hX dX5_hour_25 (by decide) (fun c_25 => ?_) (fun c_25 => ?_)
      · -- 25 t
        refine z_ldc2 hX dX5_hour_33 k_5_112 ?_
        refine z_lret hX hR dX5_hour_36 ?_
        exact ⟨rfl, Or.inr ⟨d, lt, cn, hd, hlt, hcn, rfl, h2, h1, Or.inl ⟨fun q => zJ_neg (by decide) c_25 q.2, rfl⟩⟩⟩
      · -- 25 f
        refine z_iload_n hX dX5_hour_28 rfl ?_
        refine z_iconst (v := nI 3) hX dX5_hour_29 rfl ?_
        refine z_icmp_le (tgt := 37) hX dX5_hour_30 (by decide) (fun c_30 => ?_) (fun c_30 => ?_)
        · -- 30 t
          obtain ⟨k, hk, rfl⟩ := zJ_le2 (by decide) c_25 c_30
          refine z_aload_n hX dX5_hour_37 rfl ?_
          refine z_get hX dX5_hour_38 f_5_30 rfl rfl ?_
          refine z_iload_n hX dX5_hour_41 rfl ?_
          refine z_aald hX dX5_hour_42 rfl (by decide) (wb_lgr (d := d) (by omega)) (Nat.le_of_ble_eq_true rfl) ?_
          refine z_astore (ls' := [_, _, _, _, _, _]) hX dX5_hour_43 (Nat.le_of_ble_eq_true rfl) rfl ?_
          refine z_aload hX dX5_hour_45 rfl ?_
          refine z_iload_n hX dX5_hour_47 rfl ?_
          refine z_callV hX dX5_hour_48 mv_5_133 (isG d) (c_X2_slotOf (b (29 + 7 * d)) (b (31 + 7 * d)) (b (32 + 7 * d)) (b (33 + 7 * d)) (a (34 + 7 * d)) (f (28 + 7 * d)) lt hlt h2 j (by omega)) (by decide) rfl rfl (wb_subG a b f g hd) (wb_ndG hd) (Nat.le_of_ble_eq_true rfl) rfl rfl (Nat.le_of_ble_eq_true rfl) (fun r w1 hp _ => ?_)
          obtain ⟨rfl, rfl⟩ := hp
          refine z_norm (w' := WB a b f g) rfl rfl (wb_putG0 a b f g hd) ?_
          have zsl := slF_lt lt j
          refine z_istore (ls' := [_, _, _, _, _, _]) hX dX5_hour_51 (Nat.le_of_ble_eq_true rfl) rfl ?_
          refine z_aload hX dX5_hour_53 rfl ?_
          refine z_get hX dX5_hour_55 f_5_136 (wb_lgo a b f g hd) rfl ?_
          refine z_iload hX dX5_hour_58 rfl ?_
          refine z_zald hX dX5_hour_60 (wb_lgz a b f g hd) zsl (by decide) ?_
          refine z_if_eq (tgt := 68) hX dX5_hour_61 (by decide) (fun c_61 => ?_) (fun c_61 => ?_)
          · -- 61 t
            refine z_iload_n hX dX5_hour_68 rfl ?_
            refine z_iconst (v := nI 3) hX dX5_hour_69 rfl ?_
            first | with_reducible refine z_icmp_neN (tgt := 84) hX dX5_hour_70 (by decide) (by omega) (by omega) (fun c_70 => ?_) (fun c_70 => ?_) | refine z_icmp_ne (tgt := 84) hX dX5_hour_70 (by decide) (fun c_70 => ?_) (fun c_70 => ?_)
            · -- 70 t
              refine z_aload hX dX5_hour_84 rfl ?_
              refine z_get hX dX5_hour_86 f_5_145 (wb_lgo a b f g hd) rfl ?_
              refine z_iload_n hX dX5_hour_89 rfl ?_
              refine z_aaldA hX dX5_hour_90 (wb_lgq a b f g hd) (wb_q3 (k := k) (by omega)) (Nat.le_of_ble_eq_true rfl) ?_
              refine z_iload hX dX5_hour_91 rfl ?_
              refine z_lald hX dX5_hour_93 (wb_lgh a b f g hd (by omega)) zsl (by decide) ?_
              refine z_lret hX hR dX5_hour_94 ?_
              exact ⟨rfl, Or.inr ⟨d, lt, cn, hd, hlt, hcn, rfl, h2, h1, Or.inr ⟨j, k, hj, hk, rfl, rfl, by rw [if_pos c_61, if_neg c_70]⟩⟩⟩
            · -- 70 f
              refine z_aload hX dX5_hour_73 rfl ?_
              refine z_get hX dX5_hour_75 f_5_142 (wb_lgo a b f g hd) rfl ?_
              refine z_iload hX dX5_hour_78 rfl ?_
              refine z_lald hX dX5_hour_80 (wb_lgn a b f g hd) zsl (by decide) ?_
              refine z_goto (tgt := 94) hX dX5_hour_81 (by decide) ?_
              refine z_lret hX hR dX5_hour_94 ?_
              exact ⟨rfl, Or.inr ⟨d, lt, cn, hd, hlt, hcn, rfl, h2, h1, Or.inr ⟨j, k, hj, hk, rfl, rfl, by rw [if_pos c_61, if_pos c_70]⟩⟩⟩
          · -- 61 f
            refine z_ldc2 hX dX5_hour_64 k_5_140 ?_
            refine z_lret hX hR dX5_hour_67 ?_
            exact ⟨rfl, Or.inr ⟨d, lt, cn, hd, hlt, hcn, rfl, h2, h1, Or.inr ⟨j, k, hj, hk, rfl, rfl, by rw [if_neg c_61]⟩⟩⟩
        · -- 30 f
          refine z_ldc2 hX dX5_hour_33 k_5_112 ?_
          refine z_lret hX hR dX5_hour_36 ?_
          exact ⟨rfl, Or.inr ⟨d, lt, cn, hd, hlt, hcn, rfl, h2, h1, Or.inl ⟨fun q => zJ_gt (by decide) c_30 q.2, rfl⟩⟩⟩
    · -- 18 F
      refine z_if_eq (tgt := 33) hX dX5_hour_21 (by decide) (fun _ => ?_) (fun c => absurd c (by decide))
      refine z_ldc2 hX dX5_hour_33 k_5_112 ?_
      refine z_lret hX hR dX5_hour_36 ?_
      exact ⟨rfl, Or.inr ⟨d, lt, cn, hd, hlt, hcn, rfl, h2, h1, Or.inl ⟨fun q => hn_j q.1, rfl⟩⟩⟩
  · -- 2 F
    refine z_if_eq (tgt := 33) hX dX5_hour_5 (by decide) (fun _ => ?_) (fun c => absurd c (by decide))
    refine z_ldc2 hX dX5_hour_33 k_5_112 ?_
    refine z_lret hX hR dX5_hour_36 ?_
    exact ⟨rfl, Or.inl ⟨hn_d, rfl⟩⟩
set_option maxHeartbeats 4000000 in
set_option maxRecDepth 100000 in
theorem c_X5_kept (a : Nat → Nat → Int32) (b : Nat → Nat → Int64) (f : Nat → Nat → Int32) (g : Nat → Nat → Int64) (hokl : okLg f) (x y : Int32) : ∀ l, ZC l yX5_kept cX5_kept 3 (some .int) 3 [.ref 0, .int x, .int y] (WB a b f g) (fun r w' => w' = WB a b f g ∧ ((¬ (zJ x 4 ∧ zJ y 2) ∧ r = some (.int (-1))) ∨ ∃ d l lt cn, d < 4 ∧ l < 2 ∧ lt < 100 ∧ cn ≤ 100 ∧ x = nI d ∧ y = nI l ∧ f (28 + 7 * d) 2 = nI lt ∧ f (28 + 7 * d) 1 = nI cn ∧ r = some (.int (nI (if l = 0 then cn else wiF (a (34 + 7 * d)) lt 0 cn))))) := by
  intro l
  refine zc_intro (oc := 5) (by decide +kernel) rfl (Nat.le_of_ble_eq_true rfl) ?_
  intro X hX hR
  refine z_norm (ls' := [_, _, _]) rfl rfl rfl ?_
  refine z_iload_n hX dX5_kept_0 rfl ?_
  refine z_iconst (v := nI 4) hX dX5_kept_1 rfl ?_
  refine z_callS0 hX dX5_kept_2 ms_5_48 (c_X5_isBelow _ 4 (by decide) _) (by decide) rfl rfl (Nat.le_of_ble_eq_true rfl) (fun r w1 hp _ => ?_)
  obtain ⟨rfl, ⟨⟨d, hd, rfl⟩, rfl⟩ | ⟨hn_d, rfl⟩⟩ := hp
  · -- 2 T
    obtain ⟨lt, cn, hlt, hcn, h2, h1⟩ := hokl d hd
    refine z_if_eq (tgt := 17) hX dX5_kept_5 (by decide) (fun c => absurd c (by decide)) (fun _ => ?_)
    refine z_iload_n hX dX5_kept_8 rfl ?_
    refine z_if_lt (tgt := 17) hX dX5_kept_9 (by decide) (fun c_9 => ?_) (fun c_9 => ?_)
    · -- 9 t
      refine z_iconst (v := -1) hX dX5_kept_17 rfl ?_
      refine z_iret hX hR dX5_kept_18 ?_
      exact ⟨rfl, Or.inl ⟨fun q => zJ_neg (by decide) c_9 q.2, rfl⟩⟩
    · -- 9 f
      refine z_iload_n hX dX5_kept_12 rfl ?_
      refine z_iconst (v := nI 1) hX dX5_kept_13 rfl ?_
      refine z_icmp_le (tgt := 19) hX dX5_kept_14 (by decide) (fun c_14 => ?_) (fun c_14 => ?_)
      · -- 14 t
        obtain ⟨l, hl, rfl⟩ := zJ_le2 (by decide) c_9 c_14
        refine z_iload_n hX dX5_kept_19 rfl ?_
        refine z_if_ne (tgt := 35) hX dX5_kept_20 (by decide) (fun c_20 => ?_) (fun c_20 => ?_)
        · -- 20 t
          have c_20 : ¬ l = 0 := fun q => c_20 (by rw [q]; rfl)
          refine z_aload_n hX dX5_kept_35 rfl ?_
          refine z_get hX dX5_kept_36 f_5_30 rfl rfl ?_
          refine z_iload_n hX dX5_kept_39 rfl ?_
          refine z_aald hX dX5_kept_40 rfl (by decide) (wb_lgr (d := d) (by omega)) (Nat.le_of_ble_eq_true rfl) ?_
          refine z_callV hX dX5_kept_41 mv_5_149 (isG d) (c_X2_countOfWritten (b (29 + 7 * d)) (b (31 + 7 * d)) (b (32 + 7 * d)) (b (33 + 7 * d)) (a (34 + 7 * d)) (f (28 + 7 * d)) lt hlt h2 cn hcn h1) (by decide) rfl rfl (wb_subG a b f g hd) (wb_ndG hd) (Nat.le_of_ble_eq_true rfl) rfl rfl (Nat.le_of_ble_eq_true rfl) (fun r w1 hp _ => ?_)
          obtain ⟨rfl, rfl⟩ := hp
          refine z_norm (w' := WB a b f g) rfl rfl (wb_putG0 a b f g hd) ?_
          refine z_iret hX hR dX5_kept_44 ?_
          exact ⟨rfl, Or.inr ⟨d, l, lt, cn, hd, hl, hlt, hcn, rfl, rfl, h2, h1, by rw [if_neg c_20]⟩⟩
        · -- 20 f
          have c_20 : l = 0 := (nI_eq (by omega) (by omega)).mp c_20
          refine z_aload_n hX dX5_kept_23 rfl ?_
          refine z_get hX dX5_kept_24 f_5_30 rfl rfl ?_
          refine z_iload_n hX dX5_kept_27 rfl ?_
          refine z_aald hX dX5_kept_28 rfl (by decide) (wb_lgr (d := d) (by omega)) (Nat.le_of_ble_eq_true rfl) ?_
          refine z_get hX dX5_kept_29 f_5_130 (wb_lgo a b f g hd) rfl ?_
          refine z_top h1 ?_
          refine z_goto (tgt := 44) hX dX5_kept_32 (by decide) ?_
          refine z_iret hX hR dX5_kept_44 ?_
          exact ⟨rfl, Or.inr ⟨d, l, lt, cn, hd, hl, hlt, hcn, rfl, rfl, h2, h1, by rw [if_pos c_20]⟩⟩
      · -- 14 f
        refine z_iconst (v := -1) hX dX5_kept_17 rfl ?_
        refine z_iret hX hR dX5_kept_18 ?_
        exact ⟨rfl, Or.inl ⟨fun q => zJ_gt (by decide) c_14 q.2, rfl⟩⟩
  · -- 2 F
    refine z_if_eq (tgt := 17) hX dX5_kept_5 (by decide) (fun _ => ?_) (fun c => absurd c (by decide))
    refine z_iconst (v := -1) hX dX5_kept_17 rfl ?_
    refine z_iret hX hR dX5_kept_18 ?_
    exact ⟨rfl, Or.inl ⟨fun q => hn_d q.1, rfl⟩⟩
set_option maxHeartbeats 4000000 in
set_option maxRecDepth 100000 in
theorem c_X5_mean (a : Nat → Nat → Int32) (b : Nat → Nat → Int64) (f : Nat → Nat → Int32) (g : Nat → Nat → Int64) (hokl : okLg f) (x : Int32) : ∀ l, ZC l yX5_mean cX5_mean 2 (some .long) 4 [.ref 0, .int x] (WB a b f g) (fun r w' => w' = WB a b f g ∧ ((¬ zJ x 4 ∧ r = some (.long (-1))) ∨ ∃ d lt cn, d < 4 ∧ lt < 100 ∧ cn ≤ 100 ∧ x = nI d ∧ f (28 + 7 * d) 2 = nI lt ∧ f (28 + 7 * d) 1 = nI cn ∧ r = some (.long (if wiF (a (34 + 7 * d)) lt 0 cn = 0 then -4 else siF (b (29 + 7 * d)) (a (34 + 7 * d)) lt 0 cn / lN (wiF (a (34 + 7 * d)) lt 0 cn))))) := by
  intro l
  refine zc_intro (oc := 5) (by decide +kernel) rfl (Nat.le_of_ble_eq_true rfl) ?_
  intro X hX hR
  refine z_norm (ls' := [_, _]) rfl rfl rfl ?_
  refine z_iload_n hX dX5_mean_0 rfl ?_
  refine z_iconst (v := nI 4) hX dX5_mean_1 rfl ?_
  refine z_callS0 hX dX5_mean_2 ms_5_48 (c_X5_isBelow _ 4 (by decide) _) (by decide) rfl rfl (Nat.le_of_ble_eq_true rfl) (fun r w1 hp _ => ?_)
  obtain ⟨rfl, ⟨⟨d, hd, rfl⟩, rfl⟩ | ⟨hn_d, rfl⟩⟩ := hp
  · -- 2 T
    obtain ⟨lt, cn, hlt, hcn, h2, h1⟩ := hokl d hd
    refine z_if_eq (tgt := 20) hX dX5_mean_5 (by decide) (fun c => absurd c (by decide)) (fun _ => ?_)
    refine z_aload_n hX dX5_mean_8 rfl ?_
    refine z_get hX dX5_mean_9 f_5_30 rfl rfl ?_
    refine z_iload_n hX dX5_mean_12 rfl ?_
    refine z_aald hX dX5_mean_13 rfl (by decide) (wb_lgr (d := d) (by omega)) (Nat.le_of_ble_eq_true rfl) ?_
    refine z_callV hX dX5_mean_14 mv_5_153 (isG d) (c_X2_meanOfWritten (b (29 + 7 * d)) (b (31 + 7 * d)) (b (32 + 7 * d)) (b (33 + 7 * d)) (a (34 + 7 * d)) (f (28 + 7 * d)) lt hlt h2 cn hcn h1) (by decide) rfl rfl (wb_subG a b f g hd) (wb_ndG hd) (Nat.le_of_ble_eq_true rfl) rfl rfl (Nat.le_of_ble_eq_true rfl) (fun r w1 hp _ => ?_)
    obtain ⟨rfl, rfl⟩ := hp
    refine z_norm (w' := WB a b f g) rfl rfl (wb_putG0 a b f g hd) ?_
    refine z_goto (tgt := 23) hX dX5_mean_17 (by decide) ?_
    refine z_lret hX hR dX5_mean_23 ?_
    exact ⟨rfl, Or.inr ⟨d, lt, cn, hd, hlt, hcn, rfl, h2, h1, rfl⟩⟩
  · -- 2 F
    refine z_if_eq (tgt := 20) hX dX5_mean_5 (by decide) (fun _ => ?_) (fun c => absurd c (by decide))
    refine z_ldc2 hX dX5_mean_20 k_5_112 ?_
    refine z_lret hX hR dX5_mean_23 ?_
    exact ⟨rfl, Or.inl ⟨hn_d, rfl⟩⟩
set_option maxHeartbeats 4000000 in
set_option maxRecDepth 100000 in
theorem c_X5_rank (a : Nat → Nat → Int32) (b : Nat → Nat → Int64) (f : Nat → Nat → Int32) (g : Nat → Nat → Int64) (hokl : okLg f) (x y : Int32) : ∀ l, ZC l yX5_rank cX5_rank 3 (some .long) 3 [.ref 0, .int x, .int y] (WB a b f g) (fun r w' => w' = WB a b f g ∧ ((¬ (zJ x 4 ∧ ¬ y < nI 1) ∧ r = some (.long (-1))) ∨ ∃ d lt cn, d < 4 ∧ lt < 100 ∧ cn ≤ 100 ∧ x = nI d ∧ ¬ y < nI 1 ∧ f (28 + 7 * d) 2 = nI lt ∧ f (28 + 7 * d) 1 = nI cn ∧ (((∀ j, j < cn → ¬ grOK (b (29 + 7 * d)) (a (34 + 7 * d)) lt cn y j) ∧ r = some (.long (-4))) ∨ ∃ i, i < cn ∧ grOK (b (29 + 7 * d)) (a (34 + 7 * d)) lt cn y i ∧ r = some (.long (b (29 + 7 * d) (slF lt i)))))) := by
  intro l
  refine zc_intro (oc := 5) (by decide +kernel) rfl (Nat.le_of_ble_eq_true rfl) ?_
  intro X hX hR
  refine z_norm (ls' := [_, _, _]) rfl rfl rfl ?_
  refine z_iload_n hX dX5_rank_0 rfl ?_
  refine z_iconst (v := nI 4) hX dX5_rank_1 rfl ?_
  refine z_callS0 hX dX5_rank_2 ms_5_48 (c_X5_isBelow _ 4 (by decide) _) (by decide) rfl rfl (Nat.le_of_ble_eq_true rfl) (fun r w1 hp _ => ?_)
  obtain ⟨rfl, ⟨⟨d, hd, rfl⟩, rfl⟩ | ⟨hn_d, rfl⟩⟩ := hp
  · -- 2 T
    obtain ⟨lt, cn, hlt, hcn, h2, h1⟩ := hokl d hd
    refine z_if_eq (tgt := 26) hX dX5_rank_5 (by decide) (fun c => absurd c (by decide)) (fun _ => ?_)
    refine z_iload_n hX dX5_rank_8 rfl ?_
    refine z_iconst (v := nI 1) hX dX5_rank_9 rfl ?_
    refine z_icmp_lt (tgt := 26) hX dX5_rank_10 (by decide) (fun c_10 => ?_) (fun c_10 => ?_)
    · -- 10 t
      refine z_ldc2 hX dX5_rank_26 k_5_112 ?_
      refine z_lret hX hR dX5_rank_29 ?_
      exact ⟨rfl, Or.inl ⟨fun q => q.2 c_10, rfl⟩⟩
    · -- 10 f
      refine z_aload_n hX dX5_rank_13 rfl ?_
      refine z_get hX dX5_rank_14 f_5_30 rfl rfl ?_
      refine z_iload_n hX dX5_rank_17 rfl ?_
      refine z_aald hX dX5_rank_18 rfl (by decide) (wb_lgr (d := d) (by omega)) (Nat.le_of_ble_eq_true rfl) ?_
      refine z_iload_n hX dX5_rank_19 rfl ?_
      refine z_callV hX dX5_rank_20 mv_5_156 (isG d) (c_X2_greatest (b (29 + 7 * d)) (b (31 + 7 * d)) (b (32 + 7 * d)) (b (33 + 7 * d)) (a (34 + 7 * d)) (f (28 + 7 * d)) lt hlt h2 cn hcn h1 y) (by decide) rfl rfl (wb_subG a b f g hd) (wb_ndG hd) (Nat.le_of_ble_eq_true rfl) rfl rfl (Nat.le_of_ble_eq_true rfl) (fun r w1 hp _ => ?_)
      obtain ⟨rfl, ⟨hg1, rfl⟩ | ⟨i, hi1, hi2, rfl⟩⟩ := hp
      · -- 20 case 0
        refine z_norm (w' := WB a b f g) rfl rfl (wb_putG0 a b f g hd) ?_
        refine z_goto (tgt := 29) hX dX5_rank_23 (by decide) ?_
        refine z_lret hX hR dX5_rank_29 ?_
        exact ⟨rfl, Or.inr ⟨d, lt, cn, hd, hlt, hcn, rfl, c_10, h2, h1, Or.inl ⟨hg1, rfl⟩⟩⟩
      · -- 20 case 1
        refine z_norm (w' := WB a b f g) rfl rfl (wb_putG0 a b f g hd) ?_
        refine z_goto (tgt := 29) hX dX5_rank_23 (by decide) ?_
        refine z_lret hX hR dX5_rank_29 ?_
        exact ⟨rfl, Or.inr ⟨d, lt, cn, hd, hlt, hcn, rfl, c_10, h2, h1, Or.inr ⟨i, hi1, hi2, rfl⟩⟩⟩
  · -- 2 F
    refine z_if_eq (tgt := 26) hX dX5_rank_5 (by decide) (fun _ => ?_) (fun c => absurd c (by decide))
    refine z_ldc2 hX dX5_rank_26 k_5_112 ?_
    refine z_lret hX hR dX5_rank_29 ?_
    exact ⟨rfl, Or.inl ⟨fun q => hn_d q.1, rfl⟩⟩
set_option maxHeartbeats 4000000 in
set_option maxRecDepth 100000 in
theorem c_X5_rolling (a : Nat → Nat → Int32) (b : Nat → Nat → Int64) (f : Nat → Nat → Int32) (g : Nat → Nat → Int64) (hokl : okLg f) (x y : Int32) : ∀ l, ZC l yX5_rolling cX5_rolling 3 (some .long) 3 [.ref 0, .int x, .int y] (WB a b f g) (fun r w' => w' = WB a b f g ∧ ((¬ (zJ x 4 ∧ zB y 1 24) ∧ r = some (.long (-1))) ∨ ∃ d lt cn wn, d < 4 ∧ lt < 100 ∧ cn ≤ 100 ∧ 1 ≤ wn ∧ wn ≤ 24 ∧ x = nI d ∧ y = nI wn ∧ f (28 + 7 * d) 2 = nI lt ∧ f (28 + 7 * d) 1 = nI cn ∧ r = some (.long (gmF (b (29 + 7 * d)) (a (34 + 7 * d)) lt wn (cn + 1 - wn))))) := by
  intro l
  refine zc_intro (oc := 5) (by decide +kernel) rfl (Nat.le_of_ble_eq_true rfl) ?_
  intro X hX hR
  refine z_norm (ls' := [_, _, _]) rfl rfl rfl ?_
  refine z_iload_n hX dX5_rolling_0 rfl ?_
  refine z_iconst (v := nI 4) hX dX5_rolling_1 rfl ?_
  refine z_callS0 hX dX5_rolling_2 ms_5_48 (c_X5_isBelow _ 4 (by decide) _) (by decide) rfl rfl (Nat.le_of_ble_eq_true rfl) (fun r w1 hp _ => ?_)
  obtain ⟨rfl, ⟨⟨d, hd, rfl⟩, rfl⟩ | ⟨hn_d, rfl⟩⟩ := hp
  · -- 2 T
    obtain ⟨lt, cn, hlt, hcn, h2, h1⟩ := hokl d hd
    refine z_if_eq (tgt := 32) hX dX5_rolling_5 (by decide) (fun c => absurd c (by decide)) (fun _ => ?_)
    refine z_iload_n hX dX5_rolling_8 rfl ?_
    refine z_iconst (v := nI 1) hX dX5_rolling_9 rfl ?_
    refine z_icmp_lt (tgt := 32) hX dX5_rolling_10 (by decide) (fun c_10 => ?_) (fun c_10 => ?_)
    · -- 10 t
      refine z_ldc2 hX dX5_rolling_32 k_5_112 ?_
      refine z_lret hX hR dX5_rolling_35 ?_
      exact ⟨rfl, Or.inl ⟨fun q => zB_lo (by decide) c_10 q.2, rfl⟩⟩
    · -- 10 f
      refine z_iload_n hX dX5_rolling_13 rfl ?_
      refine z_bipush (v := nI 24) hX dX5_rolling_14 rfl ?_
      refine z_icmp_gt (tgt := 32) hX dX5_rolling_16 (by decide) (fun c_16 => ?_) (fun c_16 => ?_)
      · -- 16 t
        refine z_ldc2 hX dX5_rolling_32 k_5_112 ?_
        refine z_lret hX hR dX5_rolling_35 ?_
        exact ⟨rfl, Or.inl ⟨fun q => zB_hi (h := nI 24) (by decide) (fun e => absurd c_16 (Int32.not_lt.mpr e)) q.2, rfl⟩⟩
      · -- 16 f
        have hB : zB y 1 24 := zB_of (l := nI 1) (h := nI 24) (by decide) (by decide) c_10 (Int32.not_lt.mp c_16)
        obtain ⟨wn, hw1, hw2, rfl⟩ : ∃ wn : Nat, 1 ≤ wn ∧ wn ≤ 24 ∧ y = nI wn := by
          have h5 := hB.1
          have h6 := hB.2
          refine ⟨y.toInt.toNat, by omega, by omega, ?_⟩
          rw [← Int32.toInt_inj, nI_toInt (by omega)]
          omega
        refine z_aload_n hX dX5_rolling_19 rfl ?_
        refine z_get hX dX5_rolling_20 f_5_30 rfl rfl ?_
        refine z_iload_n hX dX5_rolling_23 rfl ?_
        refine z_aald hX dX5_rolling_24 rfl (by decide) (wb_lgr (d := d) (by omega)) (Nat.le_of_ble_eq_true rfl) ?_
        refine z_iload_n hX dX5_rolling_25 rfl ?_
        refine z_callV hX dX5_rolling_26 mv_5_160 (isG d) (c_X2_greatestMean (b (29 + 7 * d)) (b (31 + 7 * d)) (b (32 + 7 * d)) (b (33 + 7 * d)) (a (34 + 7 * d)) (f (28 + 7 * d)) lt hlt h2 cn hcn h1 wn hw1 hw2) (by decide) rfl rfl (wb_subG a b f g hd) (wb_ndG hd) (Nat.le_of_ble_eq_true rfl) rfl rfl (Nat.le_of_ble_eq_true rfl) (fun r w1 hp _ => ?_)
        obtain ⟨rfl, rfl⟩ := hp
        refine z_norm (w' := WB a b f g) rfl rfl (wb_putG0 a b f g hd) ?_
        refine z_goto (tgt := 35) hX dX5_rolling_29 (by decide) ?_
        refine z_lret hX hR dX5_rolling_35 ?_
        exact ⟨rfl, Or.inr ⟨d, lt, cn, wn, hd, hlt, hcn, hw1, hw2, rfl, rfl, h2, h1, rfl⟩⟩
  · -- 2 F
    refine z_if_eq (tgt := 32) hX dX5_rolling_5 (by decide) (fun _ => ?_) (fun c => absurd c (by decide))
    refine z_ldc2 hX dX5_rolling_32 k_5_112 ?_
    refine z_lret hX hR dX5_rolling_35 ?_
    exact ⟨rfl, Or.inl ⟨fun q => hn_d q.1, rfl⟩⟩
def watC (f : Nat → Nat → Int32) (n : Nat) : Nat := watF (fun d => f (28 + 7 * d) 4) n
set_option maxHeartbeats 4000000 in
set_option maxRecDepth 100000 in
theorem lp_wt_25 {X : ZX} {post : Option Value → ZW → Prop} (hX : ZOK X 5 cX5_watch 1) (hR : ZRet X (some .int) post) (a : Nat → Nat → Int32) (b : Nat → Nat → Int64) (f : Nat → Nat → Int32) (g : Nat → Nat → Int64) (x y : Int32) (hpost : post (some (.int (nI (watC f 4)))) (WB a b f g)) : ∀ (n d : Nat), d ≤ 4 → 4 < d + n → ZG X 25 [some (.ref 0), some (.int x), some (.int y), some (.int (nI (watC f d))), some (.int (nI d))] [] (WB a b f g) := by
  intro n
  induction n with
  | zero => intro d z1 z2; omega
  | succ n ih =>
    intro d hd1 hd2
    refine z_iload hX dX5_watch_25 rfl ?_
    refine z_iconst (v := nI 4) hX dX5_watch_27 rfl ?_
    first | with_reducible refine z_icmp_geN (tgt := 58) hX dX5_watch_28 (by decide) (by omega) (by omega) (fun c_28 => ?_) (fun c_28 => ?_) | refine z_icmp_ge (tgt := 58) hX dX5_watch_28 (by decide) (fun c_28 => ?_) (fun c_28 => ?_)
    · -- 28 t
      have zd : d = 4 := by omega
      subst zd
      refine z_iload_n hX dX5_watch_58 rfl ?_
      refine z_iret hX hR dX5_watch_59 ?_
      exact hpost
    · -- 28 f
      have hd : d < 4 := by omega
      have ih2 := ih (d + 1) (by omega) (by omega)
      unfold watC at ih2
      rw [watF_s] at ih2
      refine z_iload_n hX dX5_watch_31 rfl ?_
      refine z_aload_n hX dX5_watch_32 rfl ?_
      refine z_get hX dX5_watch_33 f_5_30 rfl rfl ?_
      refine z_iload hX dX5_watch_36 rfl ?_
      refine z_aald hX dX5_watch_38 rfl (by decide) (wb_lgr (d := d) (by omega)) (Nat.le_of_ble_eq_true rfl) ?_
      refine z_get hX dX5_watch_39 f_5_163 (wb_lgo a b f g hd) rfl ?_
      refine z_if_eq (tgt := 49) hX dX5_watch_42 (by decide) (fun c_42 => ?_) (fun c_42 => ?_)
      · -- 42 t
        refine z_iconst (v := nI 0) hX dX5_watch_49 rfl ?_
        first | with_reducible refine z_iaddN hX dX5_watch_50 ?_ | refine z_iadd hX dX5_watch_50 ?_
        refine z_istore_n (ls' := [_, _, _, _, _]) hX dX5_watch_51 (Nat.le_of_ble_eq_true rfl) rfl ?_
        first | refine z_iincN (b := 1) (ls' := [_, _, _, _, _]) hX dX5_watch_52 rfl rfl rfl ?_ | refine z_iinc (ls' := [_, _, _, _, _]) hX dX5_watch_52 rfl rfl ?_
        refine z_goto (tgt := 25) hX dX5_watch_55 (by decide) ?_
        rw [if_pos c_42] at ih2
        exact ih2
      · -- 42 f
        refine z_iconst (v := nI 1) hX dX5_watch_45 rfl ?_
        refine z_goto (tgt := 50) hX dX5_watch_46 (by decide) ?_
        first | with_reducible refine z_iaddN hX dX5_watch_50 ?_ | refine z_iadd hX dX5_watch_50 ?_
        refine z_istore_n (ls' := [_, _, _, _, _]) hX dX5_watch_51 (Nat.le_of_ble_eq_true rfl) rfl ?_
        first | refine z_iincN (b := 1) (ls' := [_, _, _, _, _]) hX dX5_watch_52 rfl rfl rfl ?_ | refine z_iinc (ls' := [_, _, _, _, _]) hX dX5_watch_52 rfl rfl ?_
        refine z_goto (tgt := 25) hX dX5_watch_55 (by decide) ?_
        rw [if_neg c_42] at ih2
        exact ih2
set_option maxHeartbeats 4000000 in
set_option maxRecDepth 100000 in
theorem c_X5_watch (a : Nat → Nat → Int32) (b : Nat → Nat → Int64) (f : Nat → Nat → Int32) (g : Nat → Nat → Int64) (x y : Int32) (hy : y = 0 ∨ y = 1) : ∀ l, ZC l yX5_watch cX5_watch 5 (some .int) 1 [.ref 0, .int x, .int y] (WB a b f g) (fun r w' => (¬ zJ x 4 ∧ r = some (.int (-1)) ∧ w' = WB a b f g) ∨ ∃ d, d < 4 ∧ x = nI d ∧ r = some (.int (nI (watC (va_up f (28 + 7 * d) (va_up (f (28 + 7 * d)) 4 y)) 4))) ∧ w' = WB a b (va_up f (28 + 7 * d) (va_up (f (28 + 7 * d)) 4 y)) g) := by
  intro l
  refine zc_intro (oc := 5) (by decide +kernel) rfl (Nat.le_of_ble_eq_true rfl) ?_
  intro X hX hR
  refine z_norm (ls' := [_, _, _, _, _]) rfl rfl rfl ?_
  refine z_iload_n hX dX5_watch_0 rfl ?_
  refine z_iconst (v := nI 4) hX dX5_watch_1 rfl ?_
  refine z_callS0 hX dX5_watch_2 ms_5_48 (c_X5_isBelow _ 4 (by decide) _) (by decide) rfl rfl (Nat.le_of_ble_eq_true rfl) (fun r w1 hp _ => ?_)
  obtain ⟨rfl, ⟨⟨d, hd, rfl⟩, rfl⟩ | ⟨hn_d, rfl⟩⟩ := hp
  · -- 2 T
    refine z_if_ne (tgt := 10) hX dX5_watch_5 (by decide) (fun _ => ?_) (fun c => absurd c (by decide))
    refine z_aload_n hX dX5_watch_10 rfl ?_
    refine z_get hX dX5_watch_11 f_5_30 rfl rfl ?_
    refine z_iload_n hX dX5_watch_14 rfl ?_
    refine z_aald hX dX5_watch_15 rfl (by decide) (wb_lgr (d := d) (by omega)) (Nat.le_of_ble_eq_true rfl) ?_
    refine z_iload_n hX dX5_watch_16 rfl ?_
    refine z_putz (fs' := [.ref (29 + 7 * d), .ref (30 + 7 * d), .ref (34 + 7 * d), .int ((va_up (f (28 + 7 * d)) 4 y) 0), .int ((va_up (f (28 + 7 * d)) 4 y) 1), .int ((va_up (f (28 + 7 * d)) 4 y) 2), .int ((va_up (f (28 + 7 * d)) 4 y) 3), .int ((va_up (f (28 + 7 * d)) 4 y) 4)]) (w' := WB a b (va_up f (28 + 7 * d) (va_up (f (28 + 7 * d)) 4 y)) g) hX dX5_watch_17 p_5_163 (wb_lgo a b f g hd) hy (Nat.le_of_ble_eq_true rfl) rfl (wb_lgs a b f g hd _) ?_
    refine z_iconst (v := nI 0) hX dX5_watch_20 rfl ?_
    refine z_istore_n (ls' := [_, _, _, _, _]) hX dX5_watch_21 (Nat.le_of_ble_eq_true rfl) rfl ?_
    refine z_iconst (v := nI 0) hX dX5_watch_22 rfl ?_
    refine z_istore (ls' := [_, _, _, _, _]) hX dX5_watch_23 (Nat.le_of_ble_eq_true rfl) rfl ?_
    exact lp_wt_25 hX hR a b (va_up f (28 + 7 * d) (va_up (f (28 + 7 * d)) 4 y)) g _ y (Or.inr ⟨d, hd, rfl, rfl, rfl⟩) 5 0 (by omega) (by omega)
  · -- 2 F
    refine z_if_ne (tgt := 10) hX dX5_watch_5 (by decide) (fun c => absurd c (by decide)) (fun _ => ?_)
    refine z_iconst (v := -1) hX dX5_watch_8 rfl ?_
    refine z_iret hX hR dX5_watch_9 ?_
    exact Or.inl ⟨hn_d, rfl, rfl⟩
set_option maxHeartbeats 4000000 in
set_option maxRecDepth 100000 in
theorem c_X5_price (a : Nat → Nat → Int32) (b : Nat → Nat → Int64) (f : Nat → Nat → Int32) (g : Nat → Nat → Int64) (x y : Int32) : ∀ l, ZC l yX5_price cX5_price 4 (some .int) 1 [.ref 0, .int x, .int y] (WB a b f g) (fun r w' => (¬ (zJ x 3 ∧ zB y 0 1000) ∧ r = some (.int (-1)) ∧ w' = WB a b f g) ∨ ∃ s, s < 3 ∧ x = nI s ∧ zB y 0 1000 ∧ r = some (.int (a 57 s)) ∧ w' = WB (va_up a 57 (upd (a 57) s y)) b f g) := by
  intro l
  refine zc_intro (oc := 5) (by decide +kernel) rfl (Nat.le_of_ble_eq_true rfl) ?_
  intro X hX hR
  refine z_norm (ls' := [_, _, _, _]) rfl rfl rfl ?_
  refine z_iload_n hX dX5_price_0 rfl ?_
  refine z_iconst (v := nI 3) hX dX5_price_1 rfl ?_
  refine z_callS0 hX dX5_price_2 ms_5_48 (c_X5_isBelow _ 3 (by decide) _) (by decide) rfl rfl (Nat.le_of_ble_eq_true rfl) (fun r w1 hp _ => ?_)
  obtain ⟨rfl, ⟨⟨s, hs, rfl⟩, rfl⟩ | ⟨hn_s, rfl⟩⟩ := hp
  · -- 2 T
    refine z_if_eq (tgt := 19) hX dX5_price_5 (by decide) (fun c => absurd c (by decide)) (fun _ => ?_)
    refine z_iload_n hX dX5_price_8 rfl ?_
    refine z_if_lt (tgt := 19) hX dX5_price_9 (by decide) (fun c_9 => ?_) (fun c_9 => ?_)
    · -- 9 t
      refine z_iconst (v := -1) hX dX5_price_19 rfl ?_
      refine z_iret hX hR dX5_price_20 ?_
      exact Or.inl ⟨fun q => zB_lo (by decide) c_9 q.2, rfl, rfl⟩
    · -- 9 f
      refine z_iload_n hX dX5_price_12 rfl ?_
      refine z_sipush (v := nI 1000) hX dX5_price_13 rfl ?_
      refine z_icmp_le (tgt := 21) hX dX5_price_16 (by decide) (fun c_16 => ?_) (fun c_16 => ?_)
      · -- 16 t
        refine z_aload_n hX dX5_price_21 rfl ?_
        refine z_get hX dX5_price_22 f_5_37 rfl rfl ?_
        refine z_get hX dX5_price_25 f_5_177 rfl rfl ?_
        refine z_iload_n hX dX5_price_28 rfl ?_
        first | refine z_iald hX dX5_price_29 rfl (by omega) (by decide) ?_ | refine z_stld (nm := "FROM") (xs := zFROM) hX dX5_price_29 (fun _ _ _ _ h => h.1) (by show _ < 24; omega) (by decide) ?_ | refine z_stld (nm := "TO") (xs := zTO) hX dX5_price_29 (fun _ _ _ _ h => h.2.1) (by show _ < 24; omega) (by decide) ?_ | refine z_stld (nm := "FALL") (xs := zFALL) hX dX5_price_29 (fun _ _ _ _ h => h.2.2.1) (by show _ < 81; omega) (by decide) ?_
        refine z_istore_n (ls' := [_, _, _, _]) hX dX5_price_30 (Nat.le_of_ble_eq_true rfl) rfl ?_
        refine z_aload_n hX dX5_price_31 rfl ?_
        refine z_get hX dX5_price_32 f_5_37 rfl rfl ?_
        refine z_get hX dX5_price_35 f_5_177 rfl rfl ?_
        refine z_iload_n hX dX5_price_38 rfl ?_
        refine z_iload_n hX dX5_price_39 rfl ?_
        refine z_iast (w' := [_, _, _, _, _, _, _, _, _, _, _, _, _, _, _, _, _, _, _, _, _, _, _, _, _, _, _, _, _, _, _, _, _, _, _, _, _, _, _, _, _, _, _, _, _, _, _, _, _, _, _, _, _, _, _, _, _, _, _]) hX dX5_price_40 rfl (by omega) (by decide) rfl ?_
        refine z_iload_n hX dX5_price_41 rfl ?_
        refine z_iret hX hR dX5_price_42 ?_
        exact Or.inr ⟨s, hs, rfl, zB_of (by decide) (by decide) c_9 c_16, rfl, rfl⟩
      · -- 16 f
        refine z_iconst (v := -1) hX dX5_price_19 rfl ?_
        refine z_iret hX hR dX5_price_20 ?_
        exact Or.inl ⟨fun q => zB_hi (by decide) c_16 q.2, rfl, rfl⟩
  · -- 2 F
    refine z_if_eq (tgt := 19) hX dX5_price_5 (by decide) (fun _ => ?_) (fun c => absurd c (by decide))
    refine z_iconst (v := -1) hX dX5_price_19 rfl ?_
    refine z_iret hX hR dX5_price_20 ?_
    exact Or.inl ⟨fun q => hn_s q.1, rfl, rfl⟩
