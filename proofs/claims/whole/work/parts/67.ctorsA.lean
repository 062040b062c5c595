/-! ===== constructors ===== -/
set_option maxHeartbeats 4000000 in
set_option maxRecDepth 100000 in
theorem c_X0_init : ∀ l, ZCN l yX0_init cX0_init 1 1 [.ref 0] [.inr (0, [.null, .null, .null])] (.inr (0, [.ref 1, .ref 2, .ref 3]) :: [.inl (0, 24, .inl (fun _ => 0)), .inl (1, 10, .inr (fun _ => 0)), .inl (1, 24, .inr (fun _ => 0))]) 3 58 := by
  intro l
  refine zcn_intro (oc := 0) (by decide +kernel) rfl rfl (Nat.le_of_ble_eq_true rfl) ?_
  intro X hX hk hrm hni hin hR
  refine z_norm (ls' := [some (.ref 0)]) (st' := []) (w' := [_]) rfl rfl rfl ?_
  refine z_aload_n hX dX0_init_0 rfl ?_
  refine z_objInit hX dX0_init_1 ol_0 (by decide) (Nat.le_of_ble_eq_true rfl) ?_
  refine z_aload_n hX dX0_init_4 rfl ?_
  refine z_bipush (v := nI 24) hX dX0_init_5 rfl ?_
  refine z_newI (N := 24) (n := 1) (cells := 0) (slots := 0) hX hk hrm ⟨(Nat.le_of_ble_eq_true rfl), (Nat.le_of_ble_eq_true rfl)⟩ dX0_init_7 (by decide) rfl (by decide) rfl (fun X hX hk => ?_)
  refine z_norm (ls' := [some (.ref 0)]) (st' := [.ref 1, .ref 0]) (w' := [_, _]) rfl rfl rfl ?_
  refine z_putF (fs' := [_, _, _]) (w' := [_, _]) hX (hk.in hin) dX0_init_9 pf_0_9 rfl (fun _ => rfl) (fun _ => rfl) (Nat.le_of_ble_eq_true rfl) rfl rfl ?_
  refine z_aload_n hX dX0_init_12 rfl ?_
  refine z_bipush (v := nI 10) hX dX0_init_13 rfl ?_
  refine z_newL (N := 10) (n := 2) (cells := 1) (slots := 24) hX hk hrm ⟨(Nat.le_of_ble_eq_true rfl), (Nat.le_of_ble_eq_true rfl)⟩ dX0_init_15 (by decide) rfl (by decide) rfl (fun X hX hk => ?_)
  refine z_norm (ls' := [some (.ref 0)]) (st' := [.ref 2, .ref 0]) (w' := [_, _, _]) rfl rfl rfl ?_
  refine z_putF (fs' := [_, _, _]) (w' := [_, _, _]) hX (hk.in hin) dX0_init_17 pf_0_15 rfl (fun _ => rfl) (fun _ => rfl) (Nat.le_of_ble_eq_true rfl) rfl rfl ?_
  refine z_aload_n hX dX0_init_20 rfl ?_
  refine z_bipush (v := nI 24) hX dX0_init_21 rfl ?_
  refine z_newL (N := 24) (n := 3) (cells := 2) (slots := 34) hX hk hrm ⟨(Nat.le_of_ble_eq_true rfl), (Nat.le_of_ble_eq_true rfl)⟩ dX0_init_23 (by decide) rfl (by decide) rfl (fun X hX hk => ?_)
  refine z_norm (ls' := [some (.ref 0)]) (st' := [.ref 3, .ref 0]) (w' := [_, _, _, _]) rfl rfl rfl ?_
  refine z_putF (fs' := [_, _, _]) (w' := [_, _, _, _]) hX (hk.in hin) dX0_init_25 pf_0_19 rfl (fun _ => rfl) (fun _ => rfl) (Nat.le_of_ble_eq_true rfl) rfl rfl ?_
  exact z_vretN hX hk hR dX0_init_28 (Nat.le_of_ble_eq_true rfl) (Nat.le_of_ble_eq_true rfl) rfl
set_option maxHeartbeats 4000000 in
set_option maxRecDepth 100000 in
theorem c_X1_init : ∀ l, ZCN l yX1_init cX1_init 1 1 [.ref 0] [.inr (1, [.null, .null, .int 0, .int 0, .int 0])] (.inr (1, [.ref 1, .ref 2, .int 0, .int 0, .int 0]) :: [.inl (0, 3, .inl (upd (upd (upd (fun _ => 0) 0 (nI 1)) 1 (nI 1)) 2 (nI 1))), .inl (0, 3, .inl (fun _ => 0))]) 2 6 := by
  intro l
  refine zcn_intro (oc := 1) (by decide +kernel) rfl rfl (Nat.le_of_ble_eq_true rfl) ?_
  intro X hX hk hrm hni hin hR
  refine z_norm (ls' := [some (.ref 0)]) (st' := []) (w' := [_]) rfl rfl rfl ?_
  refine z_aload_n hX dX1_init_0 rfl ?_
  refine z_objInit hX dX1_init_1 ol_1 (by decide) (Nat.le_of_ble_eq_true rfl) ?_
  refine z_aload_n hX dX1_init_4 rfl ?_
  refine z_iconst (v := nI 3) hX dX1_init_5 rfl ?_
  refine z_newI (N := 3) (n := 1) (cells := 0) (slots := 0) hX hk hrm ⟨(Nat.le_of_ble_eq_true rfl), (Nat.le_of_ble_eq_true rfl)⟩ dX1_init_6 (by decide) rfl (by decide) rfl (fun X hX hk => ?_)
  refine z_norm (ls' := [some (.ref 0)]) (st' := [.ref 1, .ref 0]) (w' := [_, _]) rfl rfl rfl ?_
  refine z_dup hX dX1_init_8 rfl ?_
  refine z_iconst (v := nI 0) hX dX1_init_9 rfl ?_
  refine z_iconst (v := nI 1) hX dX1_init_10 rfl ?_
  refine z_iast (w' := [_, _]) hX dX1_init_11 rfl (by decide) (by decide) rfl ?_
  refine z_dup hX dX1_init_12 rfl ?_
  refine z_iconst (v := nI 1) hX dX1_init_13 rfl ?_
  refine z_iconst (v := nI 1) hX dX1_init_14 rfl ?_
  refine z_iast (w' := [_, _]) hX dX1_init_15 rfl (by decide) (by decide) rfl ?_
  refine z_dup hX dX1_init_16 rfl ?_
  refine z_iconst (v := nI 2) hX dX1_init_17 rfl ?_
  refine z_iconst (v := nI 1) hX dX1_init_18 rfl ?_
  refine z_iast (w' := [_, _]) hX dX1_init_19 rfl (by decide) (by decide) rfl ?_
  refine z_putF (fs' := [_, _, _, _, _]) (w' := [_, _]) hX (hk.in hin) dX1_init_20 pf_1_9 rfl (fun _ => rfl) (fun _ => rfl) (Nat.le_of_ble_eq_true rfl) rfl rfl ?_
  refine z_aload_n hX dX1_init_23 rfl ?_
  refine z_iconst (v := nI 3) hX dX1_init_24 rfl ?_
  refine z_newI (N := 3) (n := 2) (cells := 1) (slots := 3) hX hk hrm ⟨(Nat.le_of_ble_eq_true rfl), (Nat.le_of_ble_eq_true rfl)⟩ dX1_init_25 (by decide) rfl (by decide) rfl (fun X hX hk => ?_)
  refine z_norm (ls' := [some (.ref 0)]) (st' := [.ref 2, .ref 0]) (w' := [_, _, _]) rfl rfl rfl ?_
  refine z_putF (fs' := [_, _, _, _, _]) (w' := [_, _, _]) hX (hk.in hin) dX1_init_27 pf_1_15 rfl (fun _ => rfl) (fun _ => rfl) (Nat.le_of_ble_eq_true rfl) rfl rfl ?_
  refine z_aload_n hX dX1_init_30 rfl ?_
  refine z_iconst (v := nI 0) hX dX1_init_31 rfl ?_
  refine z_puti (fs' := [_, _, _, _, _]) (w' := [_, _, _]) hX dX1_init_32 p_1_18 rfl (Nat.le_of_ble_eq_true rfl) rfl rfl ?_
  refine z_aload_n hX dX1_init_35 rfl ?_
  refine z_iconst (v := nI 0) hX dX1_init_36 rfl ?_
  refine z_puti (fs' := [_, _, _, _, _]) (w' := [_, _, _]) hX dX1_init_37 p_1_22 rfl (Nat.le_of_ble_eq_true rfl) rfl rfl ?_
  refine z_aload_n hX dX1_init_40 rfl ?_
  refine z_iconst (v := nI 0) hX dX1_init_41 rfl ?_
  refine z_puti (fs' := [_, _, _, _, _]) (w' := [_, _, _]) hX dX1_init_42 p_1_25 rfl (Nat.le_of_ble_eq_true rfl) rfl rfl ?_
  exact z_vretN hX hk hR dX1_init_45 (Nat.le_of_ble_eq_true rfl) (Nat.le_of_ble_eq_true rfl) rfl
set_option maxHeartbeats 4000000 in
set_option maxRecDepth 100000 in
theorem c_X3_init : ∀ l, ZCN l yX3_init cX3_init 1 1 [.ref 0] [.inr (3, [.null, .int 0, .int 0, .int 0])] (.inr (3, [.ref 1, .int 0, .int 0, .int 0]) :: [.inl (0, 24, .inl (fun _ => 0))]) 1 24 := by
  intro l
  refine zcn_intro (oc := 3) (by decide +kernel) rfl rfl (Nat.le_of_ble_eq_true rfl) ?_
  intro X hX hk hrm hni hin hR
  refine z_norm (ls' := [some (.ref 0)]) (st' := []) (w' := [_]) rfl rfl rfl ?_
  refine z_aload_n hX dX3_init_0 rfl ?_
  refine z_objInit hX dX3_init_1 ol_3 (by decide) (Nat.le_of_ble_eq_true rfl) ?_
  refine z_aload_n hX dX3_init_4 rfl ?_
  refine z_bipush (v := nI 24) hX dX3_init_5 rfl ?_
  refine z_newI (N := 24) (n := 1) (cells := 0) (slots := 0) hX hk hrm ⟨(Nat.le_of_ble_eq_true rfl), (Nat.le_of_ble_eq_true rfl)⟩ dX3_init_7 (by decide) rfl (by decide) rfl (fun X hX hk => ?_)
  refine z_norm (ls' := [some (.ref 0)]) (st' := [.ref 1, .ref 0]) (w' := [_, _]) rfl rfl rfl ?_
  refine z_putF (fs' := [_, _, _, _]) (w' := [_, _]) hX (hk.in hin) dX3_init_9 pf_3_9 rfl (fun _ => rfl) (fun _ => rfl) (Nat.le_of_ble_eq_true rfl) rfl rfl ?_
  refine z_aload_n hX dX3_init_12 rfl ?_
  refine z_iconst (v := nI 0) hX dX3_init_13 rfl ?_
  refine z_putz (fs' := [_, _, _, _]) (w' := [_, _]) hX dX3_init_14 p_3_15 rfl (Or.inl rfl) (Nat.le_of_ble_eq_true rfl) rfl rfl ?_
  refine z_aload_n hX dX3_init_17 rfl ?_
  refine z_iconst (v := nI 0) hX dX3_init_18 rfl ?_
  refine z_puti (fs' := [_, _, _, _]) (w' := [_, _]) hX dX3_init_19 p_3_19 rfl (Nat.le_of_ble_eq_true rfl) rfl rfl ?_
  refine z_aload_n hX dX3_init_22 rfl ?_
  refine z_iconst (v := nI 0) hX dX3_init_23 rfl ?_
  refine z_puti (fs' := [_, _, _, _]) (w' := [_, _]) hX dX3_init_24 p_3_23 rfl (Nat.le_of_ble_eq_true rfl) rfl rfl ?_
  exact z_vretN hX hk hR dX3_init_27 (Nat.le_of_ble_eq_true rfl) (Nat.le_of_ble_eq_true rfl) rfl
set_option maxHeartbeats 4000000 in
set_option maxRecDepth 100000 in
theorem c_X4_init : ∀ l, ZCN l yX4_init cX4_init 1 1 [.ref 0] [.inr (4, [.null, .null, .null, .int 0, .long 0, .long 0, .long 0])] (.inr (4, [.ref 1, .ref 2, .ref 3, .int 0, .long 0, .long 0, .long 0]) :: [.inl (0, 24, .inl (fun _ => 0)), .inl (1, 10, .inr (fun _ => 0)), .inl (1, 10, .inr (fun _ => 0))]) 3 44 := by
  intro l
  refine zcn_intro (oc := 4) (by decide +kernel) rfl rfl (Nat.le_of_ble_eq_true rfl) ?_
  intro X hX hk hrm hni hin hR
  refine z_norm (ls' := [some (.ref 0)]) (st' := []) (w' := [_]) rfl rfl rfl ?_
  refine z_aload_n hX dX4_init_0 rfl ?_
  refine z_objInit hX dX4_init_1 ol_4 (by decide) (Nat.le_of_ble_eq_true rfl) ?_
  refine z_aload_n hX dX4_init_4 rfl ?_
  refine z_bipush (v := nI 24) hX dX4_init_5 rfl ?_
  refine z_newI (N := 24) (n := 1) (cells := 0) (slots := 0) hX hk hrm ⟨(Nat.le_of_ble_eq_true rfl), (Nat.le_of_ble_eq_true rfl)⟩ dX4_init_7 (by decide) rfl (by decide) rfl (fun X hX hk => ?_)
  refine z_norm (ls' := [some (.ref 0)]) (st' := [.ref 1, .ref 0]) (w' := [_, _]) rfl rfl rfl ?_
  refine z_putF (fs' := [_, _, _, _, _, _, _]) (w' := [_, _]) hX (hk.in hin) dX4_init_9 pf_4_9 rfl (fun _ => rfl) (fun _ => rfl) (Nat.le_of_ble_eq_true rfl) rfl rfl ?_
  refine z_aload_n hX dX4_init_12 rfl ?_
  refine z_bipush (v := nI 10) hX dX4_init_13 rfl ?_
  refine z_newL (N := 10) (n := 2) (cells := 1) (slots := 24) hX hk hrm ⟨(Nat.le_of_ble_eq_true rfl), (Nat.le_of_ble_eq_true rfl)⟩ dX4_init_15 (by decide) rfl (by decide) rfl (fun X hX hk => ?_)
  refine z_norm (ls' := [some (.ref 0)]) (st' := [.ref 2, .ref 0]) (w' := [_, _, _]) rfl rfl rfl ?_
  refine z_putF (fs' := [_, _, _, _, _, _, _]) (w' := [_, _, _]) hX (hk.in hin) dX4_init_17 pf_4_15 rfl (fun _ => rfl) (fun _ => rfl) (Nat.le_of_ble_eq_true rfl) rfl rfl ?_
  refine z_aload_n hX dX4_init_20 rfl ?_
  refine z_bipush (v := nI 10) hX dX4_init_21 rfl ?_
  refine z_newL (N := 10) (n := 3) (cells := 2) (slots := 34) hX hk hrm ⟨(Nat.le_of_ble_eq_true rfl), (Nat.le_of_ble_eq_true rfl)⟩ dX4_init_23 (by decide) rfl (by decide) rfl (fun X hX hk => ?_)
  refine z_norm (ls' := [some (.ref 0)]) (st' := [.ref 3, .ref 0]) (w' := [_, _, _, _]) rfl rfl rfl ?_
  refine z_putF (fs' := [_, _, _, _, _, _, _]) (w' := [_, _, _, _]) hX (hk.in hin) dX4_init_25 pf_4_19 rfl (fun _ => rfl) (fun _ => rfl) (Nat.le_of_ble_eq_true rfl) rfl rfl ?_
  refine z_aload_n hX dX4_init_28 rfl ?_
  refine z_iconst (v := nI 0) hX dX4_init_29 rfl ?_
  refine z_puti (fs' := [_, _, _, _, _, _, _]) (w' := [_, _, _, _]) hX dX4_init_30 p_4_22 rfl (Nat.le_of_ble_eq_true rfl) rfl rfl ?_
  refine z_aload_n hX dX4_init_33 rfl ?_
  refine z_lconst (v := 0) hX dX4_init_34 rfl ?_
  refine z_putl (fs' := [_, _, _, _, _, _, _]) (w' := [_, _, _, _]) hX dX4_init_35 p_4_26 rfl (Nat.le_of_ble_eq_true rfl) rfl rfl ?_
  refine z_aload_n hX dX4_init_38 rfl ?_
  refine z_lconst (v := 0) hX dX4_init_39 rfl ?_
  refine z_putl (fs' := [_, _, _, _, _, _, _]) (w' := [_, _, _, _]) hX dX4_init_40 p_4_30 rfl (Nat.le_of_ble_eq_true rfl) rfl rfl ?_
  refine z_aload_n hX dX4_init_43 rfl ?_
  refine z_lconst (v := 0) hX dX4_init_44 rfl ?_
  refine z_putl (fs' := [_, _, _, _, _, _, _]) (w' := [_, _, _, _]) hX dX4_init_45 p_4_33 rfl (Nat.le_of_ble_eq_true rfl) rfl rfl ?_
  exact z_vretN hX hk hR dX4_init_48 (Nat.le_of_ble_eq_true rfl) (Nat.le_of_ble_eq_true rfl) rfl
set_option maxHeartbeats 4000000 in
set_option maxRecDepth 100000 in
theorem c_X2_init : ∀ l, ZCN l yX2_init cX2_init 1 1 [.ref 0] [.inr (2, [.null, .null, .null, .int 0, .int 0, .int 0, .int 0, .int 0])] (.inr (2, [.ref 1, .ref 2, .ref 6, .int 0, .int 0, .int 0, .int 0, .int 0]) :: [.inl (1, 100, .inr (fun _ => 0)), .inr (103, [.ref 3, .ref 4, .ref 5]), .inl (1, 100, .inr (fun _ => 0)), .inl (1, 100, .inr (fun _ => 0)), .inl (1, 100, .inr (fun _ => 0)), .inl (2, 100, .inl (fun _ => 0))]) 6 503 := by
  intro l
  refine zcn_intro (oc := 2) (by decide +kernel) rfl rfl (Nat.le_of_ble_eq_true rfl) ?_
  intro X hX hk hrm hni hin hR
  refine z_norm (ls' := [some (.ref 0)]) (st' := []) (w' := [_]) rfl rfl rfl ?_
  refine z_aload_n hX dX2_init_0 rfl ?_
  refine z_objInit hX dX2_init_1 ol_2 (by decide) (Nat.le_of_ble_eq_true rfl) ?_
  refine z_aload_n hX dX2_init_4 rfl ?_
  refine z_bipush (v := nI 100) hX dX2_init_5 rfl ?_
  refine z_newL (N := 100) (n := 1) (cells := 0) (slots := 0) hX hk hrm ⟨(Nat.le_of_ble_eq_true rfl), (Nat.le_of_ble_eq_true rfl)⟩ dX2_init_7 (by decide) rfl (by decide) rfl (fun X hX hk => ?_)
  refine z_norm (ls' := [some (.ref 0)]) (st' := [.ref 1, .ref 0]) (w' := [_, _]) rfl rfl rfl ?_
  refine z_putF (fs' := [_, _, _, _, _, _, _, _]) (w' := [_, _]) hX (hk.in hin) dX2_init_9 pf_2_9 rfl (fun _ => rfl) (fun _ => rfl) (Nat.le_of_ble_eq_true rfl) rfl rfl ?_
  refine z_aload_n hX dX2_init_12 rfl ?_
  refine z_iconst (v := nI 3) hX dX2_init_13 rfl ?_
  refine z_bipush (v := nI 100) hX dX2_init_14 rfl ?_
  refine z_mna (n := 2) (cells := 1) (slots := 100) hX hk hrm hni ⟨(Nat.le_of_ble_eq_true rfl), (Nat.le_of_ble_eq_true rfl)⟩ dX2_init_16 cl_2_15 rfl (Nat.le_of_ble_eq_true rfl) rfl (fun X hX hk => ?_)
  refine z_norm (ls' := [some (.ref 0)]) (st' := [.ref 2, .ref 0]) (w' := [_, _, _, _, _, _]) rfl rfl rfl ?_
  refine z_putF (fs' := [_, _, _, _, _, _, _, _]) (w' := [_, _, _, _, _, _]) hX (hk.in hin) dX2_init_20 pf_2_17 rfl (fun _ => rfl) (fun _ => rfl) (Nat.le_of_ble_eq_true rfl) rfl rfl ?_
  refine z_aload_n hX dX2_init_23 rfl ?_
  refine z_bipush (v := nI 100) hX dX2_init_24 rfl ?_
  refine z_newZ (N := 100) (n := 6) (cells := 5) (slots := 403) hX hk hrm ⟨(Nat.le_of_ble_eq_true rfl), (Nat.le_of_ble_eq_true rfl)⟩ dX2_init_26 (by decide) rfl (by decide) rfl (fun X hX hk => ?_)
  refine z_norm (ls' := [some (.ref 0)]) (st' := [.ref 6, .ref 0]) (w' := [_, _, _, _, _, _, _]) rfl rfl rfl ?_
  refine z_putF (fs' := [_, _, _, _, _, _, _, _]) (w' := [_, _, _, _, _, _, _]) hX (hk.in hin) dX2_init_28 pf_2_20 rfl (fun _ => rfl) (fun _ => rfl) (Nat.le_of_ble_eq_true rfl) rfl rfl ?_
  refine z_aload_n hX dX2_init_31 rfl ?_
  refine z_iconst (v := nI 0) hX dX2_init_32 rfl ?_
  refine z_puti (fs' := [_, _, _, _, _, _, _, _]) (w' := [_, _, _, _, _, _, _]) hX dX2_init_33 p_2_24 rfl (Nat.le_of_ble_eq_true rfl) rfl rfl ?_
  refine z_aload_n hX dX2_init_36 rfl ?_
  refine z_iconst (v := nI 0) hX dX2_init_37 rfl ?_
  refine z_puti (fs' := [_, _, _, _, _, _, _, _]) (w' := [_, _, _, _, _, _, _]) hX dX2_init_38 p_2_28 rfl (Nat.le_of_ble_eq_true rfl) rfl rfl ?_
  refine z_aload_n hX dX2_init_41 rfl ?_
  refine z_iconst (v := nI 0) hX dX2_init_42 rfl ?_
  refine z_puti (fs' := [_, _, _, _, _, _, _, _]) (w' := [_, _, _, _, _, _, _]) hX dX2_init_43 p_2_31 rfl (Nat.le_of_ble_eq_true rfl) rfl rfl ?_
  refine z_aload_n hX dX2_init_46 rfl ?_
  refine z_iconst (v := nI 0) hX dX2_init_47 rfl ?_
  refine z_putz (fs' := [_, _, _, _, _, _, _, _]) (w' := [_, _, _, _, _, _, _]) hX dX2_init_48 p_2_34 rfl (Or.inl rfl) (Nat.le_of_ble_eq_true rfl) rfl rfl ?_
  refine z_aload_n hX dX2_init_51 rfl ?_
  refine z_iconst (v := nI 0) hX dX2_init_52 rfl ?_
  refine z_putz (fs' := [_, _, _, _, _, _, _, _]) (w' := [_, _, _, _, _, _, _]) hX dX2_init_53 p_2_38 rfl (Or.inl rfl) (Nat.le_of_ble_eq_true rfl) rfl rfl ?_
  exact z_vretN hX hk hR dX2_init_56 (Nat.le_of_ble_eq_true rfl) (Nat.le_of_ble_eq_true rfl) rfl
def am0 (k : Nat) : Nat → Int32 := match k with
  | 4 => upd (upd (upd (upd (fun _ => 0) 0 (-1)) 1 (-1)) 2 (-1)) 3 (-1)
  | 17 => (upd (upd (upd (fun _ => 0) 0 (nI 1)) 1 (nI 1)) 2 (nI 1))
  | _ => fun _ => 0
set_option maxHeartbeats 4000000 in
set_option maxRecDepth 100000 in
theorem c_X6_init : ∀ l, ZCN l yX6_init cX6_init 2 1 [.ref 0] [.inr (6, [.null, .null, .null, .null, .null, .null, .null, .null, .null, .null, .int 0, .null, .null, .null, .null, .null, .null, .int 0, .int 0, .null, .null, .null])] (WM am0 (fun _ _ => 0) (fun _ => 0)) 19 1577 := by
  intro l
  refine zcn_intro (oc := 6) (by decide +kernel) rfl rfl (Nat.le_of_ble_eq_true rfl) ?_
  intro X hX hk hrm hni hin hR
  refine z_norm (ls' := [some (.ref 0), none]) (st' := []) (w' := [_]) rfl rfl rfl ?_
  refine z_aload_n hX dX6_init_0 rfl ?_
  refine z_objInit hX dX6_init_1 ol_6 (by decide) (Nat.le_of_ble_eq_true rfl) ?_
  refine z_aload_n hX dX6_init_4 rfl ?_
  refine z_bipush (v := nI 24) hX dX6_init_5 rfl ?_
  refine z_newI (N := 24) (n := 1) (cells := 0) (slots := 0) hX hk hrm ⟨(Nat.le_of_ble_eq_true rfl), (Nat.le_of_ble_eq_true rfl)⟩ dX6_init_7 (by decide) rfl (by decide) rfl (fun X hX hk => ?_)
  refine z_norm (ls' := [some (.ref 0), none]) (st' := [.ref 1, .ref 0]) (w' := [_, _]) rfl rfl rfl ?_
  refine z_putF (fs' := [_, _, _, _, _, _, _, _, _, _, _, _, _, _, _, _, _, _, _, _, _, _]) (w' := [_, _]) hX (hk.in hin) dX6_init_9 pf_6_7 rfl (fun _ => rfl) (fun _ => rfl) (Nat.le_of_ble_eq_true rfl) rfl rfl ?_
  refine z_aload_n hX dX6_init_12 rfl ?_
  refine z_bipush (v := nI 90) hX dX6_init_13 rfl ?_
  refine z_newL (N := 90) (n := 2) (cells := 1) (slots := 24) hX hk hrm ⟨(Nat.le_of_ble_eq_true rfl), (Nat.le_of_ble_eq_true rfl)⟩ dX6_init_15 (by decide) rfl (by decide) rfl (fun X hX hk => ?_)
  refine z_norm (ls' := [some (.ref 0), none]) (st' := [.ref 2, .ref 0]) (w' := [_, _, _]) rfl rfl rfl ?_
  refine z_putF (fs' := [_, _, _, _, _, _, _, _, _, _, _, _, _, _, _, _, _, _, _, _, _, _]) (w' := [_, _, _]) hX (hk.in hin) dX6_init_17 pf_6_13 rfl (fun _ => rfl) (fun _ => rfl) (Nat.le_of_ble_eq_true rfl) rfl rfl ?_
  refine z_aload_n hX dX6_init_20 rfl ?_
  refine z_bipush (v := nI 10) hX dX6_init_21 rfl ?_
  refine z_newL (N := 10) (n := 3) (cells := 2) (slots := 114) hX hk hrm ⟨(Nat.le_of_ble_eq_true rfl), (Nat.le_of_ble_eq_true rfl)⟩ dX6_init_23 (by decide) rfl (by decide) rfl (fun X hX hk => ?_)
  refine z_norm (ls' := [some (.ref 0), none]) (st' := [.ref 3, .ref 0]) (w' := [_, _, _, _]) rfl rfl rfl ?_
  refine z_putF (fs' := [_, _, _, _, _, _, _, _, _, _, _, _, _, _, _, _, _, _, _, _, _, _]) (w' := [_, _, _, _]) hX (hk.in hin) dX6_init_25 pf_6_17 rfl (fun _ => rfl) (fun _ => rfl) (Nat.le_of_ble_eq_true rfl) rfl rfl ?_
  refine z_aload_n hX dX6_init_28 rfl ?_
  refine z_iconst (v := nI 4) hX dX6_init_29 rfl ?_
  refine z_newI (N := 4) (n := 4) (cells := 3) (slots := 124) hX hk hrm ⟨(Nat.le_of_ble_eq_true rfl), (Nat.le_of_ble_eq_true rfl)⟩ dX6_init_30 (by decide) rfl (by decide) rfl (fun X hX hk => ?_)
  refine z_norm (ls' := [some (.ref 0), none]) (st' := [.ref 4, .ref 0]) (w' := [_, _, _, _, _]) rfl rfl rfl ?_
  refine z_putF (fs' := [_, _, _, _, _, _, _, _, _, _, _, _, _, _, _, _, _, _, _, _, _, _]) (w' := [_, _, _, _, _]) hX (hk.in hin) dX6_init_32 pf_6_20 rfl (fun _ => rfl) (fun _ => rfl) (Nat.le_of_ble_eq_true rfl) rfl rfl ?_
  refine z_aload_n hX dX6_init_35 rfl ?_
  refine z_iconst (v := nI 4) hX dX6_init_36 rfl ?_
  refine z_newI (N := 4) (n := 5) (cells := 4) (slots := 128) hX hk hrm ⟨(Nat.le_of_ble_eq_true rfl), (Nat.le_of_ble_eq_true rfl)⟩ dX6_init_37 (by decide) rfl (by decide) rfl (fun X hX hk => ?_)
  refine z_norm (ls' := [some (.ref 0), none]) (st' := [.ref 5, .ref 0]) (w' := [_, _, _, _, _, _]) rfl rfl rfl ?_
  refine z_putF (fs' := [_, _, _, _, _, _, _, _, _, _, _, _, _, _, _, _, _, _, _, _, _, _]) (w' := [_, _, _, _, _, _]) hX (hk.in hin) dX6_init_39 pf_6_23 rfl (fun _ => rfl) (fun _ => rfl) (Nat.le_of_ble_eq_true rfl) rfl rfl ?_
  refine z_aload_n hX dX6_init_42 rfl ?_
  refine z_bipush (v := nI 96) hX dX6_init_43 rfl ?_
  refine z_newI (N := 96) (n := 6) (cells := 5) (slots := 132) hX hk hrm ⟨(Nat.le_of_ble_eq_true rfl), (Nat.le_of_ble_eq_true rfl)⟩ dX6_init_45 (by decide) rfl (by decide) rfl (fun X hX hk => ?_)
  refine z_norm (ls' := [some (.ref 0), none]) (st' := [.ref 6, .ref 0]) (w' := [_, _, _, _, _, _, _]) rfl rfl rfl ?_
  refine z_putF (fs' := [_, _, _, _, _, _, _, _, _, _, _, _, _, _, _, _, _, _, _, _, _, _]) (w' := [_, _, _, _, _, _, _]) hX (hk.in hin) dX6_init_47 pf_6_26 rfl (fun _ => rfl) (fun _ => rfl) (Nat.le_of_ble_eq_true rfl) rfl rfl ?_
  refine z_aload_n hX dX6_init_50 rfl ?_
  refine z_iconst (v := nI 3) hX dX6_init_51 rfl ?_
  refine z_newI (N := 3) (n := 7) (cells := 6) (slots := 228) hX hk hrm ⟨(Nat.le_of_ble_eq_true rfl), (Nat.le_of_ble_eq_true rfl)⟩ dX6_init_52 (by decide) rfl (by decide) rfl (fun X hX hk => ?_)
  refine z_norm (ls' := [some (.ref 0), none]) (st' := [.ref 7, .ref 0]) (w' := [_, _, _, _, _, _, _, _]) rfl rfl rfl ?_
  refine z_putF (fs' := [_, _, _, _, _, _, _, _, _, _, _, _, _, _, _, _, _, _, _, _, _, _]) (w' := [_, _, _, _, _, _, _, _]) hX (hk.in hin) dX6_init_54 pf_6_29 rfl (fun _ => rfl) (fun _ => rfl) (Nat.le_of_ble_eq_true rfl) rfl rfl ?_
  refine z_aload_n hX dX6_init_57 rfl ?_
  refine z_bipush (v := nI 72) hX dX6_init_58 rfl ?_
  refine z_newI (N := 72) (n := 8) (cells := 7) (slots := 231) hX hk hrm ⟨(Nat.le_of_ble_eq_true rfl), (Nat.le_of_ble_eq_true rfl)⟩ dX6_init_60 (by decide) rfl (by decide) rfl (fun X hX hk => ?_)
  refine z_norm (ls' := [some (.ref 0), none]) (st' := [.ref 8, .ref 0]) (w' := [_, _, _, _, _, _, _, _, _]) rfl rfl rfl ?_
  refine z_putF (fs' := [_, _, _, _, _, _, _, _, _, _, _, _, _, _, _, _, _, _, _, _, _, _]) (w' := [_, _, _, _, _, _, _, _, _]) hX (hk.in hin) dX6_init_62 pf_6_32 rfl (fun _ => rfl) (fun _ => rfl) (Nat.le_of_ble_eq_true rfl) rfl rfl ?_
  refine z_aload_n hX dX6_init_65 rfl ?_
  refine z_bipush (v := nI 27) hX dX6_init_66 rfl ?_
  refine z_newL (N := 27) (n := 9) (cells := 8) (slots := 303) hX hk hrm ⟨(Nat.le_of_ble_eq_true rfl), (Nat.le_of_ble_eq_true rfl)⟩ dX6_init_68 (by decide) rfl (by decide) rfl (fun X hX hk => ?_)
  refine z_norm (ls' := [some (.ref 0), none]) (st' := [.ref 9, .ref 0]) (w' := [_, _, _, _, _, _, _, _, _, _]) rfl rfl rfl ?_
  refine z_putF (fs' := [_, _, _, _, _, _, _, _, _, _, _, _, _, _, _, _, _, _, _, _, _, _]) (w' := [_, _, _, _, _, _, _, _, _, _]) hX (hk.in hin) dX6_init_70 pf_6_35 rfl (fun _ => rfl) (fun _ => rfl) (Nat.le_of_ble_eq_true rfl) rfl rfl ?_
  refine z_aload_n hX dX6_init_73 rfl ?_
  refine z_bipush (v := nI 12) hX dX6_init_74 rfl ?_
  refine z_newL (N := 12) (n := 10) (cells := 9) (slots := 330) hX hk hrm ⟨(Nat.le_of_ble_eq_true rfl), (Nat.le_of_ble_eq_true rfl)⟩ dX6_init_76 (by decide) rfl (by decide) rfl (fun X hX hk => ?_)
  refine z_norm (ls' := [some (.ref 0), none]) (st' := [.ref 10, .ref 0]) (w' := [_, _, _, _, _, _, _, _, _, _, _]) rfl rfl rfl ?_
  refine z_putF (fs' := [_, _, _, _, _, _, _, _, _, _, _, _, _, _, _, _, _, _, _, _, _, _]) (w' := [_, _, _, _, _, _, _, _, _, _, _]) hX (hk.in hin) dX6_init_78 pf_6_38 rfl (fun _ => rfl) (fun _ => rfl) (Nat.le_of_ble_eq_true rfl) rfl rfl ?_
  refine z_aload_n hX dX6_init_81 rfl ?_
  refine z_bipush (v := nI 9) hX dX6_init_82 rfl ?_
  refine z_newL (N := 9) (n := 11) (cells := 10) (slots := 342) hX hk hrm ⟨(Nat.le_of_ble_eq_true rfl), (Nat.le_of_ble_eq_true rfl)⟩ dX6_init_84 (by decide) rfl (by decide) rfl (fun X hX hk => ?_)
  refine z_norm (ls' := [some (.ref 0), none]) (st' := [.ref 11, .ref 0]) (w' := [_, _, _, _, _, _, _, _, _, _, _, _]) rfl rfl rfl ?_
  refine z_putF (fs' := [_, _, _, _, _, _, _, _, _, _, _, _, _, _, _, _, _, _, _, _, _, _]) (w' := [_, _, _, _, _, _, _, _, _, _, _, _]) hX (hk.in hin) dX6_init_86 pf_6_41 rfl (fun _ => rfl) (fun _ => rfl) (Nat.le_of_ble_eq_true rfl) rfl rfl ?_
  refine z_aload_n hX dX6_init_89 rfl ?_
  refine z_iconst (v := nI 4) hX dX6_init_90 rfl ?_
  refine z_newI (N := 4) (n := 12) (cells := 11) (slots := 351) hX hk hrm ⟨(Nat.le_of_ble_eq_true rfl), (Nat.le_of_ble_eq_true rfl)⟩ dX6_init_91 (by decide) rfl (by decide) rfl (fun X hX hk => ?_)
  refine z_norm (ls' := [some (.ref 0), none]) (st' := [.ref 12, .ref 0]) (w' := [_, _, _, _, _, _, _, _, _, _, _, _, _]) rfl rfl rfl ?_
  refine z_putF (fs' := [_, _, _, _, _, _, _, _, _, _, _, _, _, _, _, _, _, _, _, _, _, _]) (w' := [_, _, _, _, _, _, _, _, _, _, _, _, _]) hX (hk.in hin) dX6_init_93 pf_6_44 rfl (fun _ => rfl) (fun _ => rfl) (Nat.le_of_ble_eq_true rfl) rfl rfl ?_
  refine z_aload_n hX dX6_init_96 rfl ?_
  refine z_iconst (v := nI 4) hX dX6_init_97 rfl ?_
  refine z_newZ (N := 4) (n := 13) (cells := 12) (slots := 355) hX hk hrm ⟨(Nat.le_of_ble_eq_true rfl), (Nat.le_of_ble_eq_true rfl)⟩ dX6_init_98 (by decide) rfl (by decide) rfl (fun X hX hk => ?_)
  refine z_norm (ls' := [some (.ref 0), none]) (st' := [.ref 13, .ref 0]) (w' := [_, _, _, _, _, _, _, _, _, _, _, _, _, _]) rfl rfl rfl ?_
  refine z_putF (fs' := [_, _, _, _, _, _, _, _, _, _, _, _, _, _, _, _, _, _, _, _, _, _]) (w' := [_, _, _, _, _, _, _, _, _, _, _, _, _, _]) hX (hk.in hin) dX6_init_100 pf_6_47 rfl (fun _ => rfl) (fun _ => rfl) (Nat.le_of_ble_eq_true rfl) rfl rfl ?_
  refine z_aload_n hX dX6_init_103 rfl ?_
  refine z_iconst (v := nI 4) hX dX6_init_104 rfl ?_
  refine z_newZ (N := 4) (n := 14) (cells := 13) (slots := 359) hX hk hrm ⟨(Nat.le_of_ble_eq_true rfl), (Nat.le_of_ble_eq_true rfl)⟩ dX6_init_105 (by decide) rfl (by decide) rfl (fun X hX hk => ?_)
  refine z_norm (ls' := [some (.ref 0), none]) (st' := [.ref 14, .ref 0]) (w' := [_, _, _, _, _, _, _, _, _, _, _, _, _, _, _]) rfl rfl rfl ?_
  refine z_putF (fs' := [_, _, _, _, _, _, _, _, _, _, _, _, _, _, _, _, _, _, _, _, _, _]) (w' := [_, _, _, _, _, _, _, _, _, _, _, _, _, _, _]) hX (hk.in hin) dX6_init_107 pf_6_51 rfl (fun _ => rfl) (fun _ => rfl) (Nat.le_of_ble_eq_true rfl) rfl rfl ?_
  refine z_aload_n hX dX6_init_110 rfl ?_
  refine z_iconst (v := nI 4) hX dX6_init_111 rfl ?_
  refine z_newI (N := 4) (n := 15) (cells := 14) (slots := 363) hX hk hrm ⟨(Nat.le_of_ble_eq_true rfl), (Nat.le_of_ble_eq_true rfl)⟩ dX6_init_112 (by decide) rfl (by decide) rfl (fun X hX hk => ?_)
  refine z_norm (ls' := [some (.ref 0), none]) (st' := [.ref 15, .ref 0]) (w' := [_, _, _, _, _, _, _, _, _, _, _, _, _, _, _, _]) rfl rfl rfl ?_
  refine z_putF (fs' := [_, _, _, _, _, _, _, _, _, _, _, _, _, _, _, _, _, _, _, _, _, _]) (w' := [_, _, _, _, _, _, _, _, _, _, _, _, _, _, _, _]) hX (hk.in hin) dX6_init_114 pf_6_54 rfl (fun _ => rfl) (fun _ => rfl) (Nat.le_of_ble_eq_true rfl) rfl rfl ?_
  refine z_aload_n hX dX6_init_117 rfl ?_
  refine z_sipush (v := nI 1200) hX dX6_init_118 rfl ?_
  refine z_newL (N := 1200) (n := 16) (cells := 15) (slots := 367) hX hk hrm ⟨(Nat.le_of_ble_eq_true rfl), (Nat.le_of_ble_eq_true rfl)⟩ dX6_init_121 (by decide) rfl (by decide) rfl (fun X hX hk => ?_)
  refine z_norm (ls' := [some (.ref 0), none]) (st' := [.ref 16, .ref 0]) (w' := [_, _, _, _, _, _, _, _, _, _, _, _, _, _, _, _, _]) rfl rfl rfl ?_
  refine z_putF (fs' := [_, _, _, _, _, _, _, _, _, _, _, _, _, _, _, _, _, _, _, _, _, _]) (w' := [_, _, _, _, _, _, _, _, _, _, _, _, _, _, _, _, _]) hX (hk.in hin) dX6_init_123 pf_6_57 rfl (fun _ => rfl) (fun _ => rfl) (Nat.le_of_ble_eq_true rfl) rfl rfl ?_
  refine z_aload_n hX dX6_init_126 rfl ?_
  refine z_iconst (v := nI 3) hX dX6_init_127 rfl ?_
  refine z_newI (N := 3) (n := 17) (cells := 16) (slots := 1567) hX hk hrm ⟨(Nat.le_of_ble_eq_true rfl), (Nat.le_of_ble_eq_true rfl)⟩ dX6_init_128 (by decide) rfl (by decide) rfl (fun X hX hk => ?_)
  refine z_norm (ls' := [some (.ref 0), none]) (st' := [.ref 17, .ref 0]) (w' := [_, _, _, _, _, _, _, _, _, _, _, _, _, _, _, _, _, _]) rfl rfl rfl ?_
  refine z_putF (fs' := [_, _, _, _, _, _, _, _, _, _, _, _, _, _, _, _, _, _, _, _, _, _]) (w' := [_, _, _, _, _, _, _, _, _, _, _, _, _, _, _, _, _, _]) hX (hk.in hin) dX6_init_130 pf_6_60 rfl (fun _ => rfl) (fun _ => rfl) (Nat.le_of_ble_eq_true rfl) rfl rfl ?_
  refine z_aload_n hX dX6_init_133 rfl ?_
  refine z_iconst (v := nI 3) hX dX6_init_134 rfl ?_
  refine z_newI (N := 3) (n := 18) (cells := 17) (slots := 1570) hX hk hrm ⟨(Nat.le_of_ble_eq_true rfl), (Nat.le_of_ble_eq_true rfl)⟩ dX6_init_135 (by decide) rfl (by decide) rfl (fun X hX hk => ?_)
  refine z_norm (ls' := [some (.ref 0), none]) (st' := [.ref 18, .ref 0]) (w' := [_, _, _, _, _, _, _, _, _, _, _, _, _, _, _, _, _, _, _]) rfl rfl rfl ?_
  refine z_putF (fs' := [_, _, _, _, _, _, _, _, _, _, _, _, _, _, _, _, _, _, _, _, _, _]) (w' := [_, _, _, _, _, _, _, _, _, _, _, _, _, _, _, _, _, _, _]) hX (hk.in hin) dX6_init_137 pf_6_63 rfl (fun _ => rfl) (fun _ => rfl) (Nat.le_of_ble_eq_true rfl) rfl rfl ?_
  refine z_aload_n hX dX6_init_140 rfl ?_
  refine z_iconst (v := nI 4) hX dX6_init_141 rfl ?_
  refine z_newI (N := 4) (n := 19) (cells := 18) (slots := 1573) hX hk hrm ⟨(Nat.le_of_ble_eq_true rfl), (Nat.le_of_ble_eq_true rfl)⟩ dX6_init_142 (by decide) rfl (by decide) rfl (fun X hX hk => ?_)
  refine z_norm (ls' := [some (.ref 0), none]) (st' := [.ref 19, .ref 0]) (w' := [_, _, _, _, _, _, _, _, _, _, _, _, _, _, _, _, _, _, _, _]) rfl rfl rfl ?_
  refine z_putF (fs' := [_, _, _, _, _, _, _, _, _, _, _, _, _, _, _, _, _, _, _, _, _, _]) (w' := [_, _, _, _, _, _, _, _, _, _, _, _, _, _, _, _, _, _, _, _]) hX (hk.in hin) dX6_init_144 pf_6_66 rfl (fun _ => rfl) (fun _ => rfl) (Nat.le_of_ble_eq_true rfl) rfl rfl ?_
  refine z_iconst (v := nI 0) hX dX6_init_147 rfl ?_
  refine z_istore_n (ls' := [some (.ref 0), some (.int (nI 0))]) hX dX6_init_148 (Nat.le_of_ble_eq_true rfl) rfl ?_
  refine z_iload_n hX dX6_init_149 rfl ?_
  refine z_iconst (v := nI 4) hX dX6_init_150 rfl ?_
  refine z_icmp_geN (tgt := 167) hX dX6_init_151 (by decide) (by decide) (by decide) (fun c => absurd c (by decide)) (fun _ => ?_)
  refine z_aload_n hX dX6_init_154 rfl ?_
  refine z_get hX dX6_init_155 f_6_20 rfl rfl ?_
  refine z_iload_n hX dX6_init_158 rfl ?_
  refine z_iconst (v := -1) hX dX6_init_159 rfl ?_
  refine z_iast (w' := [_, _, _, _, _, _, _, _, _, _, _, _, _, _, _, _, _, _, _, _]) hX dX6_init_160 rfl (by decide) (by decide) rfl ?_
  refine z_iincN (b := 1) (ls' := [some (.ref 0), some (.int (nI 1))]) hX dX6_init_161 rfl rfl rfl ?_
  refine z_goto (tgt := 149) hX dX6_init_164 (by decide) ?_
  refine z_iload_n hX dX6_init_149 rfl ?_
  refine z_iconst (v := nI 4) hX dX6_init_150 rfl ?_
  refine z_icmp_geN (tgt := 167) hX dX6_init_151 (by decide) (by decide) (by decide) (fun c => absurd c (by decide)) (fun _ => ?_)
  refine z_aload_n hX dX6_init_154 rfl ?_
  refine z_get hX dX6_init_155 f_6_20 rfl rfl ?_
  refine z_iload_n hX dX6_init_158 rfl ?_
  refine z_iconst (v := -1) hX dX6_init_159 rfl ?_
  refine z_iast (w' := [_, _, _, _, _, _, _, _, _, _, _, _, _, _, _, _, _, _, _, _]) hX dX6_init_160 rfl (by decide) (by decide) rfl ?_
  refine z_iincN (b := 1) (ls' := [some (.ref 0), some (.int (nI 2))]) hX dX6_init_161 rfl rfl rfl ?_
  refine z_goto (tgt := 149) hX dX6_init_164 (by decide) ?_
  refine z_iload_n hX dX6_init_149 rfl ?_
  refine z_iconst (v := nI 4) hX dX6_init_150 rfl ?_
  refine z_icmp_geN (tgt := 167) hX dX6_init_151 (by decide) (by decide) (by decide) (fun c => absurd c (by decide)) (fun _ => ?_)
  refine z_aload_n hX dX6_init_154 rfl ?_
  refine z_get hX dX6_init_155 f_6_20 rfl rfl ?_
  refine z_iload_n hX dX6_init_158 rfl ?_
  refine z_iconst (v := -1) hX dX6_init_159 rfl ?_
  refine z_iast (w' := [_, _, _, _, _, _, _, _, _, _, _, _, _, _, _, _, _, _, _, _]) hX dX6_init_160 rfl (by decide) (by decide) rfl ?_
  refine z_iincN (b := 1) (ls' := [some (.ref 0), some (.int (nI 3))]) hX dX6_init_161 rfl rfl rfl ?_
  refine z_goto (tgt := 149) hX dX6_init_164 (by decide) ?_
  refine z_iload_n hX dX6_init_149 rfl ?_
  refine z_iconst (v := nI 4) hX dX6_init_150 rfl ?_
  refine z_icmp_geN (tgt := 167) hX dX6_init_151 (by decide) (by decide) (by decide) (fun c => absurd c (by decide)) (fun _ => ?_)
  refine z_aload_n hX dX6_init_154 rfl ?_
  refine z_get hX dX6_init_155 f_6_20 rfl rfl ?_
  refine z_iload_n hX dX6_init_158 rfl ?_
  refine z_iconst (v := -1) hX dX6_init_159 rfl ?_
  refine z_iast (w' := [_, _, _, _, _, _, _, _, _, _, _, _, _, _, _, _, _, _, _, _]) hX dX6_init_160 rfl (by decide) (by decide) rfl ?_
  refine z_iincN (b := 1) (ls' := [some (.ref 0), some (.int (nI 4))]) hX dX6_init_161 rfl rfl rfl ?_
  refine z_goto (tgt := 149) hX dX6_init_164 (by decide) ?_
  refine z_iload_n hX dX6_init_149 rfl ?_
  refine z_iconst (v := nI 4) hX dX6_init_150 rfl ?_
  refine z_icmp_geN (tgt := 167) hX dX6_init_151 (by decide) (by decide) (by decide) (fun _ => ?_) (fun c => absurd c (by decide))
  refine z_iconst (v := nI 0) hX dX6_init_167 rfl ?_
  refine z_istore_n (ls' := [some (.ref 0), some (.int (nI 0))]) hX dX6_init_168 (Nat.le_of_ble_eq_true rfl) rfl ?_
  refine z_iload_n hX dX6_init_169 rfl ?_
  refine z_iconst (v := nI 3) hX dX6_init_170 rfl ?_
  refine z_icmp_geN (tgt := 187) hX dX6_init_171 (by decide) (by decide) (by decide) (fun c => absurd c (by decide)) (fun _ => ?_)
  refine z_aload_n hX dX6_init_174 rfl ?_
  refine z_get hX dX6_init_175 f_6_60 rfl rfl ?_
  refine z_iload_n hX dX6_init_178 rfl ?_
  refine z_iconst (v := nI 1) hX dX6_init_179 rfl ?_
  refine z_iast (w' := [_, _, _, _, _, _, _, _, _, _, _, _, _, _, _, _, _, _, _, _]) hX dX6_init_180 rfl (by decide) (by decide) rfl ?_
  refine z_iincN (b := 1) (ls' := [some (.ref 0), some (.int (nI 1))]) hX dX6_init_181 rfl rfl rfl ?_
  refine z_goto (tgt := 169) hX dX6_init_184 (by decide) ?_
  refine z_iload_n hX dX6_init_169 rfl ?_
  refine z_iconst (v := nI 3) hX dX6_init_170 rfl ?_
  refine z_icmp_geN (tgt := 187) hX dX6_init_171 (by decide) (by decide) (by decide) (fun c => absurd c (by decide)) (fun _ => ?_)
  refine z_aload_n hX dX6_init_174 rfl ?_
  refine z_get hX dX6_init_175 f_6_60 rfl rfl ?_
  refine z_iload_n hX dX6_init_178 rfl ?_
  refine z_iconst (v := nI 1) hX dX6_init_179 rfl ?_
  refine z_iast (w' := [_, _, _, _, _, _, _, _, _, _, _, _, _, _, _, _, _, _, _, _]) hX dX6_init_180 rfl (by decide) (by decide) rfl ?_
  refine z_iincN (b := 1) (ls' := [some (.ref 0), some (.int (nI 2))]) hX dX6_init_181 rfl rfl rfl ?_
  refine z_goto (tgt := 169) hX dX6_init_184 (by decide) ?_
  refine z_iload_n hX dX6_init_169 rfl ?_
  refine z_iconst (v := nI 3) hX dX6_init_170 rfl ?_
  refine z_icmp_geN (tgt := 187) hX dX6_init_171 (by decide) (by decide) (by decide) (fun c => absurd c (by decide)) (fun _ => ?_)
  refine z_aload_n hX dX6_init_174 rfl ?_
  refine z_get hX dX6_init_175 f_6_60 rfl rfl ?_
  refine z_iload_n hX dX6_init_178 rfl ?_
  refine z_iconst (v := nI 1) hX dX6_init_179 rfl ?_
  refine z_iast (w' := [_, _, _, _, _, _, _, _, _, _, _, _, _, _, _, _, _, _, _, _]) hX dX6_init_180 rfl (by decide) (by decide) rfl ?_
  refine z_iincN (b := 1) (ls' := [some (.ref 0), some (.int (nI 3))]) hX dX6_init_181 rfl rfl rfl ?_
  refine z_goto (tgt := 169) hX dX6_init_184 (by decide) ?_
  refine z_iload_n hX dX6_init_169 rfl ?_
  refine z_iconst (v := nI 3) hX dX6_init_170 rfl ?_
  refine z_icmp_geN (tgt := 187) hX dX6_init_171 (by decide) (by decide) (by decide) (fun _ => ?_) (fun c => absurd c (by decide))
  exact z_vretN hX hk hR dX6_init_187 (Nat.le_of_ble_eq_true rfl) (Nat.le_of_ble_eq_true rfl) rfl
