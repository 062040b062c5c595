/-! ===== the class is made ===== -/
def WBm (a : Nat → Nat → Int32) (b : Nat → Nat → Int64) (f : Nat → Nat → Int32) (g : Nat → Nat → Int64) : ZW := [.inr (5, [.ref 1, .ref 5, .ref 6, .ref 7, .ref 8, .int (f 0 0)]), .inr (0, [.ref 2, .ref 3, .ref 4]), .inl (0, 24, .inl (a 2)), .inl (1, 10, .inr (b 3)), .inl (1, 24, .inr (b 4)), .inr (100, [.ref 11, .ref 13, .ref 15, .ref 17]), .inr (101, [.ref 19, .ref 23, .ref 27]), .inr (102, [.ref 31, .ref 38, .ref 45, .ref 52]), .inr (1, [.ref 9, .ref 10, .int (f 56 0), .int (f 56 1), .int (f 56 2)]), .inl (0, 3, .inl (a 57)), .inl (0, 3, .inl (a 58)), .inr (3, [.ref 12, .int (f 6 0), .int (f 6 1), .int (f 6 2)]), .inl (0, 24, .inl (a 7)), .inr (3, [.ref 14, .int (f 8 0), .int (f 8 1), .int (f 8 2)]), .inl (0, 24, .inl (a 9)), .inr (3, [.ref 16, .int (f 10 0), .int (f 10 1), .int (f 10 2)]), .inl (0, 24, .inl (a 11)), .inr (3, [.ref 18, .int (f 12 0), .int (f 12 1), .int (f 12 2)]), .inl (0, 24, .inl (a 13)), .inr (4, [.ref 20, .ref 21, .ref 22, .int (f 15 0), .long (g 15 0), .long (g 15 1), .long (g 15 2)]), .inl (0, 24, .inl (a 16)), .inl (1, 10, .inr (b 17)), .inl (1, 10, .inr (b 18)), .inr (4, [.ref 24, .ref 25, .ref 26, .int (f 19 0), .long (g 19 0), .long (g 19 1), .long (g 19 2)]), .inl (0, 24, .inl (a 20)), .inl (1, 10, .inr (b 21)), .inl (1, 10, .inr (b 22)), .inr (4, [.ref 28, .ref 29, .ref 30, .int (f 23 0), .long (g 23 0), .long (g 23 1), .long (g 23 2)]), .inl (0, 24, .inl (a 24)), .inl (1, 10, .inr (b 25)), .inl (1, 10, .inr (b 26)), .inr (2, [.ref 32, .ref 33, .ref 37, .int (f 28 0), .int (f 28 1), .int (f 28 2), .int (f 28 3), .int (f 28 4)]), .inl (1, 100, .inr (b 29)), .inr (103, [.ref 34, .ref 35, .ref 36]), .inl (1, 100, .inr (b 31)), .inl (1, 100, .inr (b 32)), .inl (1, 100, .inr (b 33)), .inl (2, 100, .inl (a 34)), .inr (2, [.ref 39, .ref 40, .ref 44, .int (f 35 0), .int (f 35 1), .int (f 35 2), .int (f 35 3), .int (f 35 4)]), .inl (1, 100, .inr (b 36)), .inr (103, [.ref 41, .ref 42, .ref 43]), .inl (1, 100, .inr (b 38)), .inl (1, 100, .inr (b 39)), .inl (1, 100, .inr (b 40)), .inl (2, 100, .inl (a 41)), .inr (2, [.ref 46, .ref 47, .ref 51, .int (f 42 0), .int (f 42 1), .int (f 42 2), .int (f 42 3), .int (f 42 4)]), .inl (1, 100, .inr (b 43)), .inr (103, [.ref 48, .ref 49, .ref 50]), .inl (1, 100, .inr (b 45)), .inl (1, 100, .inr (b 46)), .inl (1, 100, .inr (b 47)), .inl (2, 100, .inl (a 48)), .inr (2, [.ref 53, .ref 54, .ref 58, .int (f 49 0), .int (f 49 1), .int (f 49 2), .int (f 49 3), .int (f 49 4)]), .inl (1, 100, .inr (b 50)), .inr (103, [.ref 55, .ref 56, .ref 57]), .inl (1, 100, .inr (b 52)), .inl (1, 100, .inr (b 53)), .inl (1, 100, .inr (b 54)), .inl (2, 100, .inl (a 55))]
def ac0 (k : Nat) : Nat → Int32 := match k with
  | 57 => (upd (upd (upd (fun _ => 0) 0 (nI 1)) 1 (nI 1)) 2 (nI 1))
  | _ => fun _ => 0
set_option maxHeartbeats 4000000 in
set_option maxRecDepth 100000 in
theorem c_X5_init : ∀ l, ZCN l yX5_init cX5_init 2 2 [.ref 0] [.inr (5, [.null, .null, .null, .null, .null, .int 0])] (WBm ac0 (fun _ _ => 0) (fun _ _ => 0) (fun _ _ => 0)) 58 2392 := by
  intro l
  refine zcn_intro (oc := 5) (by decide +kernel) rfl rfl (Nat.le_of_ble_eq_true rfl) ?_
  intro X hX hk hrm hni hin hR
  refine z_norm (ls' := [some (.ref 0), none]) (st' := []) (w' := [_]) rfl rfl rfl ?_
  refine z_aload_n hX dX5_init_0 rfl ?_
  refine z_objInit hX dX5_init_1 ol_5 (by decide) (Nat.le_of_ble_eq_true rfl) ?_
  refine z_aload_n hX dX5_init_4 rfl ?_
  refine z_newo (n := 1) (cells := 0) (slots := 0) hX hk hrm ⟨(Nat.le_of_ble_eq_true rfl), (Nat.le_of_ble_eq_true rfl)⟩ dX5_init_5 nw_5_9 rfl rfl (by decide) rfl (fun X hX hk => ?_)
  refine z_norm (ls' := [some (.ref 0), none]) (st' := [.ref 1, .ref 0]) (w' := [_, _]) rfl rfl rfl ?_
  refine z_dup hX dX5_init_8 rfl ?_
  refine z_callIN (n := 2) (cells := 1) (slots := 3) hX hk hrm hni dX5_init_9 (fun U h => h.1.1) iq_0 iy_0 (by decide) c_X0_init (by decide) ⟨(Nat.le_of_ble_eq_true rfl), (Nat.le_of_ble_eq_true rfl)⟩ rfl (Nat.le_of_ble_eq_true rfl) rfl rfl rfl rfl (Nat.le_of_ble_eq_true rfl) (fun X hX hk => ?_)
  refine z_norm (ls' := [some (.ref 0), none]) (st' := [.ref 1, .ref 0]) (w' := [_, _, _, _, _]) rfl rfl rfl ?_
  refine z_putF (fs' := [_, _, _, _, _, _]) (w' := [_, _, _, _, _]) hX (hk.in hin) dX5_init_12 pf_5_12 rfl (fun _ => rfl) (fun _ => rfl) (Nat.le_of_ble_eq_true rfl) rfl rfl ?_
  refine z_aload_n hX dX5_init_15 rfl ?_
  refine z_iconst (v := nI 4) hX dX5_init_16 rfl ?_
  refine z_newq (ci := 100) (N := 4) (n := 5) (cells := 4) (slots := 61) hX hk hrm hni ⟨(Nat.le_of_ble_eq_true rfl), (Nat.le_of_ble_eq_true rfl)⟩ dX5_init_17 cl_5_16 (fun U h => h.2.1.1) (fun _ => rfl) (by decide) (by decide) rfl (by decide) rfl (fun X hX hk => ?_)
  refine z_norm (ls' := [some (.ref 0), none]) (st' := [.ref 5, .ref 0]) (w' := [_, _, _, _, _, _]) rfl rfl rfl ?_
  refine z_putF (fs' := [_, _, _, _, _, _]) (w' := [_, _, _, _, _, _]) hX (hk.in hin) dX5_init_20 pf_5_18 rfl (fun _ => rfl) (fun _ => rfl) (Nat.le_of_ble_eq_true rfl) rfl rfl ?_
  refine z_aload_n hX dX5_init_23 rfl ?_
  refine z_iconst (v := nI 3) hX dX5_init_24 rfl ?_
  refine z_newq (ci := 101) (N := 3) (n := 6) (cells := 5) (slots := 65) hX hk hrm hni ⟨(Nat.le_of_ble_eq_true rfl), (Nat.le_of_ble_eq_true rfl)⟩ dX5_init_25 cl_5_22 (fun U h => h.2.1.2.1) (fun _ => rfl) (by decide) (by decide) rfl (by decide) rfl (fun X hX hk => ?_)
  refine z_norm (ls' := [some (.ref 0), none]) (st' := [.ref 6, .ref 0]) (w' := [_, _, _, _, _, _, _]) rfl rfl rfl ?_
  refine z_putF (fs' := [_, _, _, _, _, _]) (w' := [_, _, _, _, _, _, _]) hX (hk.in hin) dX5_init_28 pf_5_24 rfl (fun _ => rfl) (fun _ => rfl) (Nat.le_of_ble_eq_true rfl) rfl rfl ?_
  refine z_aload_n hX dX5_init_31 rfl ?_
  refine z_iconst (v := nI 4) hX dX5_init_32 rfl ?_
  refine z_newq (ci := 102) (N := 4) (n := 7) (cells := 6) (slots := 68) hX hk hrm hni ⟨(Nat.le_of_ble_eq_true rfl), (Nat.le_of_ble_eq_true rfl)⟩ dX5_init_33 cl_5_28 (fun U h => h.2.1.2.2) (fun _ => rfl) (by decide) (by decide) rfl (by decide) rfl (fun X hX hk => ?_)
  refine z_norm (ls' := [some (.ref 0), none]) (st' := [.ref 7, .ref 0]) (w' := [_, _, _, _, _, _, _, _]) rfl rfl rfl ?_
  refine z_putF (fs' := [_, _, _, _, _, _]) (w' := [_, _, _, _, _, _, _, _]) hX (hk.in hin) dX5_init_36 pf_5_30 rfl (fun _ => rfl) (fun _ => rfl) (Nat.le_of_ble_eq_true rfl) rfl rfl ?_
  refine z_aload_n hX dX5_init_39 rfl ?_
  refine z_newo (n := 8) (cells := 7) (slots := 72) hX hk hrm ⟨(Nat.le_of_ble_eq_true rfl), (Nat.le_of_ble_eq_true rfl)⟩ dX5_init_40 nw_5_34 rfl rfl (by decide) rfl (fun X hX hk => ?_)
  refine z_norm (ls' := [some (.ref 0), none]) (st' := [.ref 8, .ref 0]) (w' := [_, _, _, _, _, _, _, _, _]) rfl rfl rfl ?_
  refine z_dup hX dX5_init_43 rfl ?_
  refine z_callIN (n := 9) (cells := 8) (slots := 77) hX hk hrm hni dX5_init_44 (fun U h => h.1.2.1) iq_1 iy_1 (by decide) c_X1_init (by decide) ⟨(Nat.le_of_ble_eq_true rfl), (Nat.le_of_ble_eq_true rfl)⟩ rfl (Nat.le_of_ble_eq_true rfl) rfl rfl rfl rfl (Nat.le_of_ble_eq_true rfl) (fun X hX hk => ?_)
  refine z_norm (ls' := [some (.ref 0), none]) (st' := [.ref 8, .ref 0]) (w' := [_, _, _, _, _, _, _, _, _, _, _]) rfl rfl rfl ?_
  refine z_putF (fs' := [_, _, _, _, _, _]) (w' := [_, _, _, _, _, _, _, _, _, _, _]) hX (hk.in hin) dX5_init_47 pf_5_37 rfl (fun _ => rfl) (fun _ => rfl) (Nat.le_of_ble_eq_true rfl) rfl rfl ?_
  refine z_aload_n hX dX5_init_50 rfl ?_
  refine z_iconst (v := nI 0) hX dX5_init_51 rfl ?_
  refine z_puti (fs' := [_, _, _, _, _, _]) (w' := [_, _, _, _, _, _, _, _, _, _, _]) hX dX5_init_52 p_5_41 rfl (Nat.le_of_ble_eq_true rfl) rfl rfl ?_
  refine z_iconst (v := nI 0) hX dX5_init_55 rfl ?_
  refine z_istore_n (ls' := [some (.ref 0), some (.int (nI 0))]) hX dX5_init_56 (Nat.le_of_ble_eq_true rfl) rfl ?_
  refine z_iload_n hX dX5_init_57 rfl ?_
  refine z_iconst (v := nI 4) hX dX5_init_58 rfl ?_
  refine z_icmp_geN (tgt := 81) hX dX5_init_59 (by decide) (by decide) (by decide) (fun c => absurd c (by decide)) (fun _ => ?_)
  refine z_aload_n hX dX5_init_62 rfl ?_
  refine z_get hX dX5_init_63 f_5_18 rfl rfl ?_
  refine z_iload_n hX dX5_init_66 rfl ?_
  refine z_newo (n := 11) (cells := 10) (slots := 83) hX hk hrm ⟨(Nat.le_of_ble_eq_true rfl), (Nat.le_of_ble_eq_true rfl)⟩ dX5_init_67 nw_5_16 rfl rfl (by decide) rfl (fun X hX hk => ?_)
  refine z_norm (ls' := [some (.ref 0), some (.int (nI 0))]) (st' := [.ref 11, .int (nI 0), .ref 5]) (w' := [_, _, _, _, _, _, _, _, _, _, _, _]) rfl rfl rfl ?_
  refine z_dup hX dX5_init_70 rfl ?_
  refine z_callIN (n := 12) (cells := 11) (slots := 87) hX hk hrm hni dX5_init_71 (fun U h => h.1.2.2.1) iq_3 iy_3 (by decide) c_X3_init (by decide) ⟨(Nat.le_of_ble_eq_true rfl), (Nat.le_of_ble_eq_true rfl)⟩ rfl (Nat.le_of_ble_eq_true rfl) rfl rfl rfl rfl (Nat.le_of_ble_eq_true rfl) (fun X hX hk => ?_)
  refine z_norm (ls' := [some (.ref 0), some (.int (nI 0))]) (st' := [.ref 11, .int (nI 0), .ref 5]) (w' := [_, _, _, _, _, _, _, _, _, _, _, _, _]) rfl rfl rfl ?_
  refine z_aast (w' := [_, _, _, _, _, _, _, _, _, _, _, _, _]) hX dX5_init_74 rfl (by decide) (fun _ => rfl) rfl (by decide) rfl (Nat.le_of_ble_eq_true rfl) (Nat.le_of_ble_eq_true rfl) rfl rfl ?_
  refine z_iincN (b := 1) (ls' := [some (.ref 0), some (.int (nI 1))]) hX dX5_init_75 rfl rfl rfl ?_
  refine z_goto (tgt := 57) hX dX5_init_78 (by decide) ?_
  refine z_iload_n hX dX5_init_57 rfl ?_
  refine z_iconst (v := nI 4) hX dX5_init_58 rfl ?_
  refine z_icmp_geN (tgt := 81) hX dX5_init_59 (by decide) (by decide) (by decide) (fun c => absurd c (by decide)) (fun _ => ?_)
  refine z_aload_n hX dX5_init_62 rfl ?_
  refine z_get hX dX5_init_63 f_5_18 rfl rfl ?_
  refine z_iload_n hX dX5_init_66 rfl ?_
  refine z_newo (n := 13) (cells := 12) (slots := 111) hX hk hrm ⟨(Nat.le_of_ble_eq_true rfl), (Nat.le_of_ble_eq_true rfl)⟩ dX5_init_67 nw_5_16 rfl rfl (by decide) rfl (fun X hX hk => ?_)
  refine z_norm (ls' := [some (.ref 0), some (.int (nI 1))]) (st' := [.ref 13, .int (nI 1), .ref 5]) (w' := [_, _, _, _, _, _, _, _, _, _, _, _, _, _]) rfl rfl rfl ?_
  refine z_dup hX dX5_init_70 rfl ?_
  refine z_callIN (n := 14) (cells := 13) (slots := 115) hX hk hrm hni dX5_init_71 (fun U h => h.1.2.2.1) iq_3 iy_3 (by decide) c_X3_init (by decide) ⟨(Nat.le_of_ble_eq_true rfl), (Nat.le_of_ble_eq_true rfl)⟩ rfl (Nat.le_of_ble_eq_true rfl) rfl rfl rfl rfl (Nat.le_of_ble_eq_true rfl) (fun X hX hk => ?_)
  refine z_norm (ls' := [some (.ref 0), some (.int (nI 1))]) (st' := [.ref 13, .int (nI 1), .ref 5]) (w' := [_, _, _, _, _, _, _, _, _, _, _, _, _, _, _]) rfl rfl rfl ?_
  refine z_aast (w' := [_, _, _, _, _, _, _, _, _, _, _, _, _, _, _]) hX dX5_init_74 rfl (by decide) (fun _ => rfl) rfl (by decide) rfl (Nat.le_of_ble_eq_true rfl) (Nat.le_of_ble_eq_true rfl) rfl rfl ?_
  refine z_iincN (b := 1) (ls' := [some (.ref 0), some (.int (nI 2))]) hX dX5_init_75 rfl rfl rfl ?_
  refine z_goto (tgt := 57) hX dX5_init_78 (by decide) ?_
  refine z_iload_n hX dX5_init_57 rfl ?_
  refine z_iconst (v := nI 4) hX dX5_init_58 rfl ?_
  refine z_icmp_geN (tgt := 81) hX dX5_init_59 (by decide) (by decide) (by decide) (fun c => absurd c (by decide)) (fun _ => ?_)
  refine z_aload_n hX dX5_init_62 rfl ?_
  refine z_get hX dX5_init_63 f_5_18 rfl rfl ?_
  refine z_iload_n hX dX5_init_66 rfl ?_
  refine z_newo (n := 15) (cells := 14) (slots := 139) hX hk hrm ⟨(Nat.le_of_ble_eq_true rfl), (Nat.le_of_ble_eq_true rfl)⟩ dX5_init_67 nw_5_16 rfl rfl (by decide) rfl (fun X hX hk => ?_)
  refine z_norm (ls' := [some (.ref 0), some (.int (nI 2))]) (st' := [.ref 15, .int (nI 2), .ref 5]) (w' := [_, _, _, _, _, _, _, _, _, _, _, _, _, _, _, _]) rfl rfl rfl ?_
  refine z_dup hX dX5_init_70 rfl ?_
  refine z_callIN (n := 16) (cells := 15) (slots := 143) hX hk hrm hni dX5_init_71 (fun U h => h.1.2.2.1) iq_3 iy_3 (by decide) c_X3_init (by decide) ⟨(Nat.le_of_ble_eq_true rfl), (Nat.le_of_ble_eq_true rfl)⟩ rfl (Nat.le_of_ble_eq_true rfl) rfl rfl rfl rfl (Nat.le_of_ble_eq_true rfl) (fun X hX hk => ?_)
  refine z_norm (ls' := [some (.ref 0), some (.int (nI 2))]) (st' := [.ref 15, .int (nI 2), .ref 5]) (w' := [_, _, _, _, _, _, _, _, _, _, _, _, _, _, _, _, _]) rfl rfl rfl ?_
  refine z_aast (w' := [_, _, _, _, _, _, _, _, _, _, _, _, _, _, _, _, _]) hX dX5_init_74 rfl (by decide) (fun _ => rfl) rfl (by decide) rfl (Nat.le_of_ble_eq_true rfl) (Nat.le_of_ble_eq_true rfl) rfl rfl ?_
  refine z_iincN (b := 1) (ls' := [some (.ref 0), some (.int (nI 3))]) hX dX5_init_75 rfl rfl rfl ?_
  refine z_goto (tgt := 57) hX dX5_init_78 (by decide) ?_
  refine z_iload_n hX dX5_init_57 rfl ?_
  refine z_iconst (v := nI 4) hX dX5_init_58 rfl ?_
  refine z_icmp_geN (tgt := 81) hX dX5_init_59 (by decide) (by decide) (by decide) (fun c => absurd c (by decide)) (fun _ => ?_)
  refine z_aload_n hX dX5_init_62 rfl ?_
  refine z_get hX dX5_init_63 f_5_18 rfl rfl ?_
  refine z_iload_n hX dX5_init_66 rfl ?_
  refine z_newo (n := 17) (cells := 16) (slots := 167) hX hk hrm ⟨(Nat.le_of_ble_eq_true rfl), (Nat.le_of_ble_eq_true rfl)⟩ dX5_init_67 nw_5_16 rfl rfl (by decide) rfl (fun X hX hk => ?_)
  refine z_norm (ls' := [some (.ref 0), some (.int (nI 3))]) (st' := [.ref 17, .int (nI 3), .ref 5]) (w' := [_, _, _, _, _, _, _, _, _, _, _, _, _, _, _, _, _, _]) rfl rfl rfl ?_
  refine z_dup hX dX5_init_70 rfl ?_
  refine z_callIN (n := 18) (cells := 17) (slots := 171) hX hk hrm hni dX5_init_71 (fun U h => h.1.2.2.1) iq_3 iy_3 (by decide) c_X3_init (by decide) ⟨(Nat.le_of_ble_eq_true rfl), (Nat.le_of_ble_eq_true rfl)⟩ rfl (Nat.le_of_ble_eq_true rfl) rfl rfl rfl rfl (Nat.le_of_ble_eq_true rfl) (fun X hX hk => ?_)
  refine z_norm (ls' := [some (.ref 0), some (.int (nI 3))]) (st' := [.ref 17, .int (nI 3), .ref 5]) (w' := [_, _, _, _, _, _, _, _, _, _, _, _, _, _, _, _, _, _, _]) rfl rfl rfl ?_
  refine z_aast (w' := [_, _, _, _, _, _, _, _, _, _, _, _, _, _, _, _, _, _, _]) hX dX5_init_74 rfl (by decide) (fun _ => rfl) rfl (by decide) rfl (Nat.le_of_ble_eq_true rfl) (Nat.le_of_ble_eq_true rfl) rfl rfl ?_
  refine z_iincN (b := 1) (ls' := [some (.ref 0), some (.int (nI 4))]) hX dX5_init_75 rfl rfl rfl ?_
  refine z_goto (tgt := 57) hX dX5_init_78 (by decide) ?_
  refine z_iload_n hX dX5_init_57 rfl ?_
  refine z_iconst (v := nI 4) hX dX5_init_58 rfl ?_
  refine z_icmp_geN (tgt := 81) hX dX5_init_59 (by decide) (by decide) (by decide) (fun _ => ?_) (fun c => absurd c (by decide))
  refine z_iconst (v := nI 0) hX dX5_init_81 rfl ?_
  refine z_istore_n (ls' := [some (.ref 0), some (.int (nI 0))]) hX dX5_init_82 (Nat.le_of_ble_eq_true rfl) rfl ?_
  refine z_iload_n hX dX5_init_83 rfl ?_
  refine z_iconst (v := nI 3) hX dX5_init_84 rfl ?_
  refine z_icmp_geN (tgt := 107) hX dX5_init_85 (by decide) (by decide) (by decide) (fun c => absurd c (by decide)) (fun _ => ?_)
  refine z_aload_n hX dX5_init_88 rfl ?_
  refine z_get hX dX5_init_89 f_5_24 rfl rfl ?_
  refine z_iload_n hX dX5_init_92 rfl ?_
  refine z_newo (n := 19) (cells := 18) (slots := 195) hX hk hrm ⟨(Nat.le_of_ble_eq_true rfl), (Nat.le_of_ble_eq_true rfl)⟩ dX5_init_93 nw_5_22 rfl rfl (by decide) rfl (fun X hX hk => ?_)
  refine z_norm (ls' := [some (.ref 0), some (.int (nI 0))]) (st' := [.ref 19, .int (nI 0), .ref 6]) (w' := [_, _, _, _, _, _, _, _, _, _, _, _, _, _, _, _, _, _, _, _]) rfl rfl rfl ?_
  refine z_dup hX dX5_init_96 rfl ?_
  refine z_callIN (n := 20) (cells := 19) (slots := 202) hX hk hrm hni dX5_init_97 (fun U h => h.1.2.2.2.1) iq_4 iy_4 (by decide) c_X4_init (by decide) ⟨(Nat.le_of_ble_eq_true rfl), (Nat.le_of_ble_eq_true rfl)⟩ rfl (Nat.le_of_ble_eq_true rfl) rfl rfl rfl rfl (Nat.le_of_ble_eq_true rfl) (fun X hX hk => ?_)
  refine z_norm (ls' := [some (.ref 0), some (.int (nI 0))]) (st' := [.ref 19, .int (nI 0), .ref 6]) (w' := [_, _, _, _, _, _, _, _, _, _, _, _, _, _, _, _, _, _, _, _, _, _, _]) rfl rfl rfl ?_
  refine z_aast (w' := [_, _, _, _, _, _, _, _, _, _, _, _, _, _, _, _, _, _, _, _, _, _, _]) hX dX5_init_100 rfl (by decide) (fun _ => rfl) rfl (by decide) rfl (Nat.le_of_ble_eq_true rfl) (Nat.le_of_ble_eq_true rfl) rfl rfl ?_
  refine z_iincN (b := 1) (ls' := [some (.ref 0), some (.int (nI 1))]) hX dX5_init_101 rfl rfl rfl ?_
  refine z_goto (tgt := 83) hX dX5_init_104 (by decide) ?_
  refine z_iload_n hX dX5_init_83 rfl ?_
  refine z_iconst (v := nI 3) hX dX5_init_84 rfl ?_
  refine z_icmp_geN (tgt := 107) hX dX5_init_85 (by decide) (by decide) (by decide) (fun c => absurd c (by decide)) (fun _ => ?_)
  refine z_aload_n hX dX5_init_88 rfl ?_
  refine z_get hX dX5_init_89 f_5_24 rfl rfl ?_
  refine z_iload_n hX dX5_init_92 rfl ?_
  refine z_newo (n := 23) (cells := 22) (slots := 246) hX hk hrm ⟨(Nat.le_of_ble_eq_true rfl), (Nat.le_of_ble_eq_true rfl)⟩ dX5_init_93 nw_5_22 rfl rfl (by decide) rfl (fun X hX hk => ?_)
  refine z_norm (ls' := [some (.ref 0), some (.int (nI 1))]) (st' := [.ref 23, .int (nI 1), .ref 6]) (w' := [_, _, _, _, _, _, _, _, _, _, _, _, _, _, _, _, _, _, _, _, _, _, _, _]) rfl rfl rfl ?_
  refine z_dup hX dX5_init_96 rfl ?_
  refine z_callIN (n := 24) (cells := 23) (slots := 253) hX hk hrm hni dX5_init_97 (fun U h => h.1.2.2.2.1) iq_4 iy_4 (by decide) c_X4_init (by decide) ⟨(Nat.le_of_ble_eq_true rfl), (Nat.le_of_ble_eq_true rfl)⟩ rfl (Nat.le_of_ble_eq_true rfl) rfl rfl rfl rfl (Nat.le_of_ble_eq_true rfl) (fun X hX hk => ?_)
  refine z_norm (ls' := [some (.ref 0), some (.int (nI 1))]) (st' := [.ref 23, .int (nI 1), .ref 6]) (w' := [_, _, _, _, _, _, _, _, _, _, _, _, _, _, _, _, _, _, _, _, _, _, _, _, _, _, _]) rfl rfl rfl ?_
  refine z_aast (w' := [_, _, _, _, _, _, _, _, _, _, _, _, _, _, _, _, _, _, _, _, _, _, _, _, _, _, _]) hX dX5_init_100 rfl (by decide) (fun _ => rfl) rfl (by decide) rfl (Nat.le_of_ble_eq_true rfl) (Nat.le_of_ble_eq_true rfl) rfl rfl ?_
  refine z_iincN (b := 1) (ls' := [some (.ref 0), some (.int (nI 2))]) hX dX5_init_101 rfl rfl rfl ?_
  refine z_goto (tgt := 83) hX dX5_init_104 (by decide) ?_
  refine z_iload_n hX dX5_init_83 rfl ?_
  refine z_iconst (v := nI 3) hX dX5_init_84 rfl ?_
  refine z_icmp_geN (tgt := 107) hX dX5_init_85 (by decide) (by decide) (by decide) (fun c => absurd c (by decide)) (fun _ => ?_)
  refine z_aload_n hX dX5_init_88 rfl ?_
  refine z_get hX dX5_init_89 f_5_24 rfl rfl ?_
  refine z_iload_n hX dX5_init_92 rfl ?_
  refine z_newo (n := 27) (cells := 26) (slots := 297) hX hk hrm ⟨(Nat.le_of_ble_eq_true rfl), (Nat.le_of_ble_eq_true rfl)⟩ dX5_init_93 nw_5_22 rfl rfl (by decide) rfl (fun X hX hk => ?_)
  refine z_norm (ls' := [some (.ref 0), some (.int (nI 2))]) (st' := [.ref 27, .int (nI 2), .ref 6]) (w' := [_, _, _, _, _, _, _, _, _, _, _, _, _, _, _, _, _, _, _, _, _, _, _, _, _, _, _, _]) rfl rfl rfl ?_
  refine z_dup hX dX5_init_96 rfl ?_
  refine z_callIN (n := 28) (cells := 27) (slots := 304) hX hk hrm hni dX5_init_97 (fun U h => h.1.2.2.2.1) iq_4 iy_4 (by decide) c_X4_init (by decide) ⟨(Nat.le_of_ble_eq_true rfl), (Nat.le_of_ble_eq_true rfl)⟩ rfl (Nat.le_of_ble_eq_true rfl) rfl rfl rfl rfl (Nat.le_of_ble_eq_true rfl) (fun X hX hk => ?_)
  refine z_norm (ls' := [some (.ref 0), some (.int (nI 2))]) (st' := [.ref 27, .int (nI 2), .ref 6]) (w' := [_, _, _, _, _, _, _, _, _, _, _, _, _, _, _, _, _, _, _, _, _, _, _, _, _, _, _, _, _, _, _]) rfl rfl rfl ?_
  refine z_aast (w' := [_, _, _, _, _, _, _, _, _, _, _, _, _, _, _, _, _, _, _, _, _, _, _, _, _, _, _, _, _, _, _]) hX dX5_init_100 rfl (by decide) (fun _ => rfl) rfl (by decide) rfl (Nat.le_of_ble_eq_true rfl) (Nat.le_of_ble_eq_true rfl) rfl rfl ?_
  refine z_iincN (b := 1) (ls' := [some (.ref 0), some (.int (nI 3))]) hX dX5_init_101 rfl rfl rfl ?_
  refine z_goto (tgt := 83) hX dX5_init_104 (by decide) ?_
  refine z_iload_n hX dX5_init_83 rfl ?_
  refine z_iconst (v := nI 3) hX dX5_init_84 rfl ?_
  refine z_icmp_geN (tgt := 107) hX dX5_init_85 (by decide) (by decide) (by decide) (fun _ => ?_) (fun c => absurd c (by decide))
  refine z_iconst (v := nI 0) hX dX5_init_107 rfl ?_
  refine z_istore_n (ls' := [some (.ref 0), some (.int (nI 0))]) hX dX5_init_108 (Nat.le_of_ble_eq_true rfl) rfl ?_
  refine z_iload_n hX dX5_init_109 rfl ?_
  refine z_iconst (v := nI 4) hX dX5_init_110 rfl ?_
  refine z_icmp_geN (tgt := 133) hX dX5_init_111 (by decide) (by decide) (by decide) (fun c => absurd c (by decide)) (fun _ => ?_)
  refine z_aload_n hX dX5_init_114 rfl ?_
  refine z_get hX dX5_init_115 f_5_30 rfl rfl ?_
  refine z_iload_n hX dX5_init_118 rfl ?_
  refine z_newo (n := 31) (cells := 30) (slots := 348) hX hk hrm ⟨(Nat.le_of_ble_eq_true rfl), (Nat.le_of_ble_eq_true rfl)⟩ dX5_init_119 nw_5_28 rfl rfl (by decide) rfl (fun X hX hk => ?_)
  refine z_norm (ls' := [some (.ref 0), some (.int (nI 0))]) (st' := [.ref 31, .int (nI 0), .ref 7]) (w' := [_, _, _, _, _, _, _, _, _, _, _, _, _, _, _, _, _, _, _, _, _, _, _, _, _, _, _, _, _, _, _, _]) rfl rfl rfl ?_
  refine z_dup hX dX5_init_122 rfl ?_
  refine z_callIN (n := 32) (cells := 31) (slots := 356) hX hk hrm hni dX5_init_123 (fun U h => h.1.2.2.2.2) iq_2 iy_2 (by decide) c_X2_init (by decide) ⟨(Nat.le_of_ble_eq_true rfl), (Nat.le_of_ble_eq_true rfl)⟩ rfl (Nat.le_of_ble_eq_true rfl) rfl rfl rfl rfl (Nat.le_of_ble_eq_true rfl) (fun X hX hk => ?_)
  refine z_norm (ls' := [some (.ref 0), some (.int (nI 0))]) (st' := [.ref 31, .int (nI 0), .ref 7]) (w' := [_, _, _, _, _, _, _, _, _, _, _, _, _, _, _, _, _, _, _, _, _, _, _, _, _, _, _, _, _, _, _, _, _, _, _, _, _, _]) rfl rfl rfl ?_
  refine z_aast (w' := [_, _, _, _, _, _, _, _, _, _, _, _, _, _, _, _, _, _, _, _, _, _, _, _, _, _, _, _, _, _, _, _, _, _, _, _, _, _]) hX dX5_init_126 rfl (by decide) (fun _ => rfl) rfl (by decide) rfl (Nat.le_of_ble_eq_true rfl) (Nat.le_of_ble_eq_true rfl) rfl rfl ?_
  refine z_iincN (b := 1) (ls' := [some (.ref 0), some (.int (nI 1))]) hX dX5_init_127 rfl rfl rfl ?_
  refine z_goto (tgt := 109) hX dX5_init_130 (by decide) ?_
  refine z_iload_n hX dX5_init_109 rfl ?_
  refine z_iconst (v := nI 4) hX dX5_init_110 rfl ?_
  refine z_icmp_geN (tgt := 133) hX dX5_init_111 (by decide) (by decide) (by decide) (fun c => absurd c (by decide)) (fun _ => ?_)
  refine z_aload_n hX dX5_init_114 rfl ?_
  refine z_get hX dX5_init_115 f_5_30 rfl rfl ?_
  refine z_iload_n hX dX5_init_118 rfl ?_
  refine z_newo (n := 38) (cells := 37) (slots := 859) hX hk hrm ⟨(Nat.le_of_ble_eq_true rfl), (Nat.le_of_ble_eq_true rfl)⟩ dX5_init_119 nw_5_28 rfl rfl (by decide) rfl (fun X hX hk => ?_)
  refine z_norm (ls' := [some (.ref 0), some (.int (nI 1))]) (st' := [.ref 38, .int (nI 1), .ref 7]) (w' := [_, _, _, _, _, _, _, _, _, _, _, _, _, _, _, _, _, _, _, _, _, _, _, _, _, _, _, _, _, _, _, _, _, _, _, _, _, _, _]) rfl rfl rfl ?_
  refine z_dup hX dX5_init_122 rfl ?_
  refine z_callIN (n := 39) (cells := 38) (slots := 867) hX hk hrm hni dX5_init_123 (fun U h => h.1.2.2.2.2) iq_2 iy_2 (by decide) c_X2_init (by decide) ⟨(Nat.le_of_ble_eq_true rfl), (Nat.le_of_ble_eq_true rfl)⟩ rfl (Nat.le_of_ble_eq_true rfl) rfl rfl rfl rfl (Nat.le_of_ble_eq_true rfl) (fun X hX hk => ?_)
  refine z_norm (ls' := [some (.ref 0), some (.int (nI 1))]) (st' := [.ref 38, .int (nI 1), .ref 7]) (w' := [_, _, _, _, _, _, _, _, _, _, _, _, _, _, _, _, _, _, _, _, _, _, _, _, _, _, _, _, _, _, _, _, _, _, _, _, _, _, _, _, _, _, _, _, _]) rfl rfl rfl ?_
  refine z_aast (w' := [_, _, _, _, _, _, _, _, _, _, _, _, _, _, _, _, _, _, _, _, _, _, _, _, _, _, _, _, _, _, _, _, _, _, _, _, _, _, _, _, _, _, _, _, _]) hX dX5_init_126 rfl (by decide) (fun _ => rfl) rfl (by decide) rfl (Nat.le_of_ble_eq_true rfl) (Nat.le_of_ble_eq_true rfl) rfl rfl ?_
  refine z_iincN (b := 1) (ls' := [some (.ref 0), some (.int (nI 2))]) hX dX5_init_127 rfl rfl rfl ?_
  refine z_goto (tgt := 109) hX dX5_init_130 (by decide) ?_
  refine z_iload_n hX dX5_init_109 rfl ?_
  refine z_iconst (v := nI 4) hX dX5_init_110 rfl ?_
  refine z_icmp_geN (tgt := 133) hX dX5_init_111 (by decide) (by decide) (by decide) (fun c => absurd c (by decide)) (fun _ => ?_)
  refine z_aload_n hX dX5_init_114 rfl ?_
  refine z_get hX dX5_init_115 f_5_30 rfl rfl ?_
  refine z_iload_n hX dX5_init_118 rfl ?_
  refine z_newo (n := 45) (cells := 44) (slots := 1370) hX hk hrm ⟨(Nat.le_of_ble_eq_true rfl), (Nat.le_of_ble_eq_true rfl)⟩ dX5_init_119 nw_5_28 rfl rfl (by decide) rfl (fun X hX hk => ?_)
  refine z_norm (ls' := [some (.ref 0), some (.int (nI 2))]) (st' := [.ref 45, .int (nI 2), .ref 7]) (w' := [_, _, _, _, _, _, _, _, _, _, _, _, _, _, _, _, _, _, _, _, _, _, _, _, _, _, _, _, _, _, _, _, _, _, _, _, _, _, _, _, _, _, _, _, _, _]) rfl rfl rfl ?_
  refine z_dup hX dX5_init_122 rfl ?_
  refine z_callIN (n := 46) (cells := 45) (slots := 1378) hX hk hrm hni dX5_init_123 (fun U h => h.1.2.2.2.2) iq_2 iy_2 (by decide) c_X2_init (by decide) ⟨(Nat.le_of_ble_eq_true rfl), (Nat.le_of_ble_eq_true rfl)⟩ rfl (Nat.le_of_ble_eq_true rfl) rfl rfl rfl rfl (Nat.le_of_ble_eq_true rfl) (fun X hX hk => ?_)
  refine z_norm (ls' := [some (.ref 0), some (.int (nI 2))]) (st' := [.ref 45, .int (nI 2), .ref 7]) (w' := [_, _, _, _, _, _, _, _, _, _, _, _, _, _, _, _, _, _, _, _, _, _, _, _, _, _, _, _, _, _, _, _, _, _, _, _, _, _, _, _, _, _, _, _, _, _, _, _, _, _, _, _]) rfl rfl rfl ?_
  refine z_aast (w' := [_, _, _, _, _, _, _, _, _, _, _, _, _, _, _, _, _, _, _, _, _, _, _, _, _, _, _, _, _, _, _, _, _, _, _, _, _, _, _, _, _, _, _, _, _, _, _, _, _, _, _, _]) hX dX5_init_126 rfl (by decide) (fun _ => rfl) rfl (by decide) rfl (Nat.le_of_ble_eq_true rfl) (Nat.le_of_ble_eq_true rfl) rfl rfl ?_
  refine z_iincN (b := 1) (ls' := [some (.ref 0), some (.int (nI 3))]) hX dX5_init_127 rfl rfl rfl ?_
  refine z_goto (tgt := 109) hX dX5_init_130 (by decide) ?_
  refine z_iload_n hX dX5_init_109 rfl ?_
  refine z_iconst (v := nI 4) hX dX5_init_110 rfl ?_
  refine z_icmp_geN (tgt := 133) hX dX5_init_111 (by decide) (by decide) (by decide) (fun c => absurd c (by decide)) (fun _ => ?_)
  refine z_aload_n hX dX5_init_114 rfl ?_
  refine z_get hX dX5_init_115 f_5_30 rfl rfl ?_
  refine z_iload_n hX dX5_init_118 rfl ?_
  refine z_newo (n := 52) (cells := 51) (slots := 1881) hX hk hrm ⟨(Nat.le_of_ble_eq_true rfl), (Nat.le_of_ble_eq_true rfl)⟩ dX5_init_119 nw_5_28 rfl rfl (by decide) rfl (fun X hX hk => ?_)
  refine z_norm (ls' := [some (.ref 0), some (.int (nI 3))]) (st' := [.ref 52, .int (nI 3), .ref 7]) (w' := [_, _, _, _, _, _, _, _, _, _, _, _, _, _, _, _, _, _, _, _, _, _, _, _, _, _, _, _, _, _, _, _, _, _, _, _, _, _, _, _, _, _, _, _, _, _, _, _, _, _, _, _, _]) rfl rfl rfl ?_
  refine z_dup hX dX5_init_122 rfl ?_
  refine z_callIN (n := 53) (cells := 52) (slots := 1889) hX hk hrm hni dX5_init_123 (fun U h => h.1.2.2.2.2) iq_2 iy_2 (by decide) c_X2_init (by decide) ⟨(Nat.le_of_ble_eq_true rfl), (Nat.le_of_ble_eq_true rfl)⟩ rfl (Nat.le_of_ble_eq_true rfl) rfl rfl rfl rfl (Nat.le_of_ble_eq_true rfl) (fun X hX hk => ?_)
  refine z_norm (ls' := [some (.ref 0), some (.int (nI 3))]) (st' := [.ref 52, .int (nI 3), .ref 7]) (w' := [_, _, _, _, _, _, _, _, _, _, _, _, _, _, _, _, _, _, _, _, _, _, _, _, _, _, _, _, _, _, _, _, _, _, _, _, _, _, _, _, _, _, _, _, _, _, _, _, _, _, _, _, _, _, _, _, _, _, _]) rfl rfl rfl ?_
  refine z_aast (w' := [_, _, _, _, _, _, _, _, _, _, _, _, _, _, _, _, _, _, _, _, _, _, _, _, _, _, _, _, _, _, _, _, _, _, _, _, _, _, _, _, _, _, _, _, _, _, _, _, _, _, _, _, _, _, _, _, _, _, _]) hX dX5_init_126 rfl (by decide) (fun _ => rfl) rfl (by decide) rfl (Nat.le_of_ble_eq_true rfl) (Nat.le_of_ble_eq_true rfl) rfl rfl ?_
  refine z_iincN (b := 1) (ls' := [some (.ref 0), some (.int (nI 4))]) hX dX5_init_127 rfl rfl rfl ?_
  refine z_goto (tgt := 109) hX dX5_init_130 (by decide) ?_
  refine z_iload_n hX dX5_init_109 rfl ?_
  refine z_iconst (v := nI 4) hX dX5_init_110 rfl ?_
  refine z_icmp_geN (tgt := 133) hX dX5_init_111 (by decide) (by decide) (by decide) (fun _ => ?_) (fun c => absurd c (by decide))
  exact z_vretN hX hk hR dX5_init_133 (Nat.le_of_ble_eq_true rfl) (Nat.le_of_ble_eq_true rfl) rfl
