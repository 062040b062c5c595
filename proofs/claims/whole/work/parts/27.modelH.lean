/-! ===== the reference: write, hours ===== -/
def wrE (mn : Nat) : Nat := if mn = 100 then 99 else mn
def wrM (a15 : Nat → Int32) (d mn : Nat) (p : Nat) : Int32 := if p = d then nI (wrE mn + 1) else a15 p
def wrV (b9 : Nat → Int64) (lost : Int32) (db s : Nat) : Int64 := if lost = 0 then b9 (9 * s + db) else -1
def wrS (b16 b9 : Nat → Int64) (lost : Int32) (d db mn : Nat) (p : Nat) : Int64 := if 300 * d + 3 * wrE mn ≤ p ∧ p < 300 * d + 3 * wrE mn + 3 then wrV b9 lost db (p - (300 * d + 3 * wrE mn)) else if mn = 100 ∧ 300 * d ≤ p ∧ p < 300 * d + 297 then b16 (p + 3) else b16 p
set_option maxHeartbeats 4000000 in
set_option maxRecDepth 100000 in
theorem lp_wr_62 {X : ZX} {post : Option Value → ZW → Prop} (hX : ZOK X 6 cX6_write 0) (hR : ZRet X none post) (a : Nat → Nat → Int32) (b : Nat → Nat → Int64) (c : Nat → Int32) (m15 : Nat → Int32) (sh0 : Nat → Int64) (d e db : Nat) (hd : d < 4) (he : e ≤ 99) (hdb : db < 9) (h15 : m15 d = nI e) (h12 : a 12 d = nI db) (hpost : ∀ sh, (∀ p, sh p = if 300 * d + 3 * e ≤ p ∧ p < 300 * d + 3 * e + 3 then wrV (b 9) (a 13 d) db (p - (300 * d + 3 * e)) else sh0 p) → post none (WM (va_up a 15 (upd m15 d (nI (e + 1)))) (va_up b 16 sh) c)) : ∀ (n k : Nat) (sh : Nat → Int64), k ≤ 3 → 3 < k + n → (∀ p, sh p = if 300 * d + 3 * e ≤ p ∧ p < 300 * d + 3 * e + k then wrV (b 9) (a 13 d) db (p - (300 * d + 3 * e)) else sh0 p) → ZG X 62 [some (.ref 0), some (.int (nI d)), some (.int (nI (300 * d))), some (.int (nI k))] [] (WM (va_up a 15 m15) (va_up b 16 sh) c) := by
  intro n
  induction n with
  | zero => intro k sh z1 z2; omega
  | succ n ih =>
    intro k sh hk1 hk2 hsh
    refine z_iload_n hX dX6_write_62 rfl ?_
    refine z_iconst (v := nI 3) hX dX6_write_63 rfl ?_
    first | with_reducible refine z_icmp_geN (tgt := 121) hX dX6_write_64 (by decide) (by omega) (by omega) (fun c_64 => ?_) (fun c_64 => ?_) | refine z_icmp_ge (tgt := 121) hX dX6_write_64 (by decide) (fun c_64 => ?_) (fun c_64 => ?_)
    · -- 64 t
      have zk : k = 3 := by omega
      subst zk
      refine z_aload_n hX dX6_write_121 rfl ?_
      refine z_get hX dX6_write_122 f_6_54 rfl rfl ?_
      refine z_iload_n hX dX6_write_125 rfl ?_
      first | refine z_dup2_2 hX dX6_write_126 rfl ?_ | refine z_dup2_11 hX dX6_write_126 rfl rfl ?_
      refine z_iald hX dX6_write_127 rfl (by omega) (by decide) ?_
      refine z_top h15 ?_
      refine z_iconst (v := nI 1) hX dX6_write_128 rfl ?_
      first | with_reducible refine z_iaddN hX dX6_write_129 ?_ | refine z_iadd hX dX6_write_129 ?_
      refine z_iast (w' := [_, _, _, _, _, _, _, _, _, _, _, _, _, _, _, _, _, _, _, _]) hX dX6_write_130 rfl (by omega) (by decide) rfl ?_
      refine z_vret hX hR dX6_write_131 ?_
      exact hpost sh hsh
    · -- 64 f
      refine z_aload_n hX dX6_write_67 rfl ?_
      refine z_get hX dX6_write_68 f_6_57 rfl rfl ?_
      refine z_iload_n hX dX6_write_71 rfl ?_
      refine z_iconst (v := nI 3) hX dX6_write_72 rfl ?_
      refine z_aload_n hX dX6_write_73 rfl ?_
      refine z_get hX dX6_write_74 f_6_54 rfl rfl ?_
      refine z_iload_n hX dX6_write_77 rfl ?_
      refine z_iald hX dX6_write_78 rfl (by omega) (by decide) ?_
      refine z_top h15 ?_
      first | with_reducible refine z_imulN hX dX6_write_79 ?_ | refine z_imul hX dX6_write_79 ?_
      first | with_reducible refine z_iaddN hX dX6_write_80 ?_ | refine z_iadd hX dX6_write_80 ?_
      refine z_iload_n hX dX6_write_81 rfl ?_
      first | with_reducible refine z_iaddN hX dX6_write_82 ?_ | refine z_iadd hX dX6_write_82 ?_
      refine z_aload_n hX dX6_write_83 rfl ?_
      refine z_get hX dX6_write_84 f_6_47 rfl rfl ?_
      refine z_iload_n hX dX6_write_87 rfl ?_
      refine z_zald hX dX6_write_88 rfl (by omega) (by decide) ?_
      refine z_if_eq (tgt := 98) hX dX6_write_89 (by decide) (fun c_89 => ?_) (fun c_89 => ?_)
      · -- 89 t
        refine z_aload_n hX dX6_write_98 rfl ?_
        refine z_get hX dX6_write_99 f_6_35 rfl rfl ?_
        refine z_bipush (v := nI 9) hX dX6_write_102 rfl ?_
        refine z_iload_n hX dX6_write_104 rfl ?_
        first | with_reducible refine z_imulN hX dX6_write_105 ?_ | refine z_imul hX dX6_write_105 ?_
        refine z_aload_n hX dX6_write_106 rfl ?_
        refine z_get hX dX6_write_107 f_6_44 rfl rfl ?_
        refine z_iload_n hX dX6_write_110 rfl ?_
        refine z_iald hX dX6_write_111 rfl (by omega) (by decide) ?_
        refine z_top h12 ?_
        first | with_reducible refine z_iaddN hX dX6_write_112 ?_ | refine z_iadd hX dX6_write_112 ?_
        refine z_lald hX dX6_write_113 rfl (by omega) (by decide) ?_
        refine z_last (w' := [_, _, _, _, _, _, _, _, _, _, _, _, _, _, _, _, _, _, _, _]) hX dX6_write_114 rfl (by omega) (by decide) rfl ?_
        first | refine z_iincN (b := 1) (ls' := [_, _, _, _]) hX dX6_write_115 rfl rfl rfl ?_ | refine z_iinc (ls' := [_, _, _, _]) hX dX6_write_115 rfl rfl ?_
        refine z_goto (tgt := 62) hX dX6_write_118 (by decide) ?_
        refine ih (k + 1) (vp_updL sh (300 * d + 3 * e + k) (b 9 (9 * k + db))) (by omega) (by omega) (fun p => ?_)
        by_cases e0 : p = 300 * d + 3 * e + k
        · rw [e0, pk_uLs, if_pos (by omega), show 300 * d + 3 * e + k - (300 * d + 3 * e) = k by omega]
          unfold wrV
          exact (if_pos c_89).symm
        · rw [pk_uLn e0, hsh p]
          by_cases e2 : 300 * d + 3 * e ≤ p ∧ p < 300 * d + 3 * e + k
          · rw [if_pos e2, if_pos (by omega)]
          · rw [if_neg e2, if_neg (by omega)]
      · -- 89 f
        refine z_ldc2 hX dX6_write_92 k_6_99 ?_
        refine z_goto (tgt := 114) hX dX6_write_95 (by decide) ?_
        refine z_last (w' := [_, _, _, _, _, _, _, _, _, _, _, _, _, _, _, _, _, _, _, _]) hX dX6_write_114 rfl (by omega) (by decide) rfl ?_
        first | refine z_iincN (b := 1) (ls' := [_, _, _, _]) hX dX6_write_115 rfl rfl rfl ?_ | refine z_iinc (ls' := [_, _, _, _]) hX dX6_write_115 rfl rfl ?_
        refine z_goto (tgt := 62) hX dX6_write_118 (by decide) ?_
        refine ih (k + 1) (vp_updL sh (300 * d + 3 * e + k) (-1)) (by omega) (by omega) (fun p => ?_)
        by_cases e0 : p = 300 * d + 3 * e + k
        · rw [e0, pk_uLs, if_pos (by omega), show 300 * d + 3 * e + k - (300 * d + 3 * e) = k by omega]
          unfold wrV
          exact (if_neg c_89).symm
        · rw [pk_uLn e0, hsh p]
          by_cases e2 : 300 * d + 3 * e ≤ p ∧ p < 300 * d + 3 * e + k
          · rw [if_pos e2, if_pos (by omega)]
          · rw [if_neg e2, if_neg (by omega)]
set_option maxHeartbeats 4000000 in
set_option maxRecDepth 100000 in
theorem lp_wr_19 {X : ZX} {post : Option Value → ZW → Prop} (hX : ZOK X 6 cX6_write 0) (hR : ZRet X none post) (a : Nat → Nat → Int32) (b : Nat → Nat → Int64) (c : Nat → Int32) (d db : Nat) (hd : d < 4) (hdb : db < 9) (h15 : a 15 d = nI 100) (h12 : a 12 d = nI db) (hpost : post none (WM (va_up a 15 (wrM (a 15) d 100)) (va_up b 16 (wrS (b 16) (b 9) (a 13 d) d db 100)) c)) : ∀ (n k : Nat) (sh : Nat → Int64), 3 ≤ k → k ≤ 300 → 300 < k + n → (∀ p, sh p = if 300 * d ≤ p ∧ p + 3 < 300 * d + k then b 16 (p + 3) else b 16 p) → ZG X 19 [some (.ref 0), some (.int (nI d)), some (.int (nI (300 * d))), some (.int (nI k))] [] (WM a (va_up b 16 sh) c) := by
  intro n
  induction n with
  | zero => intro k sh z1 z2 z3; omega
  | succ n ih =>
    intro k sh hk0 hk1 hk2 hsh
    refine z_iload_n hX dX6_write_19 rfl ?_
    refine z_sipush (v := nI 300) hX dX6_write_20 rfl ?_
    first | with_reducible refine z_icmp_geN (tgt := 50) hX dX6_write_23 (by decide) (by omega) (by omega) (fun c_23 => ?_) (fun c_23 => ?_) | refine z_icmp_ge (tgt := 50) hX dX6_write_23 (by decide) (fun c_23 => ?_) (fun c_23 => ?_)
    · -- 23 t
      have zk : k = 300 := by omega
      subst zk
      refine z_aload_n hX dX6_write_50 rfl ?_
      refine z_get hX dX6_write_51 f_6_54 rfl rfl ?_
      refine z_iload_n hX dX6_write_54 rfl ?_
      first | refine z_dup2_2 hX dX6_write_55 rfl ?_ | refine z_dup2_11 hX dX6_write_55 rfl rfl ?_
      refine z_iald hX dX6_write_56 rfl (by omega) (by decide) ?_
      refine z_top h15 ?_
      refine z_iconst (v := nI 1) hX dX6_write_57 rfl ?_
      first | with_reducible refine z_isubN hX dX6_write_58 (by omega) ?_ | refine z_isub hX dX6_write_58 ?_
      refine z_iast (w' := [_, _, _, _, _, _, _, _, _, _, _, _, _, _, _, _, _, _, _, _]) hX dX6_write_59 rfl (by omega) (by decide) rfl ?_
      refine z_iconst (v := nI 0) hX dX6_write_60 rfl ?_
      refine z_istore_n (ls' := [_, _, _, _]) hX dX6_write_61 (Nat.le_of_ble_eq_true rfl) rfl ?_
      refine lp_wr_62 hX hR a b c (upd (a 15) d (nI (100 - 1))) sh d 99 db hd (by omega) hdb pk_us h12 (fun sh1 e1 => ?_) 4 0 sh (by omega) (by omega) (fun p => by rw [if_neg (by omega)])
      have e2 : upd (upd (a 15) d (nI (100 - 1))) d (nI (99 + 1)) = wrM (a 15) d 100 := by
        funext p
        unfold wrM
        by_cases e : p = d
        · rw [e, pk_us, if_pos rfl]
          rfl
        · rw [pk_un e, pk_un e, if_neg e]
      have e3 : sh1 = wrS (b 16) (b 9) (a 13 d) d db 100 := by
        funext p
        rw [e1 p]
        unfold wrS wrE
        rw [if_pos rfl]
        by_cases e : 300 * d + 3 * 99 ≤ p ∧ p < 300 * d + 3 * 99 + 3
        · rw [if_pos e, if_pos e]
        · rw [if_neg e, if_neg e, hsh p]
          by_cases e4 : 300 * d ≤ p ∧ p + 3 < 300 * d + 300
          · rw [if_pos e4, if_pos (by omega)]
          · rw [if_neg e4, if_neg (by omega)]
      rw [e2, e3]
      exact hpost
    · -- 23 f
      refine z_aload_n hX dX6_write_26 rfl ?_
      refine z_get hX dX6_write_27 f_6_57 rfl rfl ?_
      refine z_iload_n hX dX6_write_30 rfl ?_
      refine z_iload_n hX dX6_write_31 rfl ?_
      first | with_reducible refine z_iaddN hX dX6_write_32 ?_ | refine z_iadd hX dX6_write_32 ?_
      refine z_iconst (v := nI 3) hX dX6_write_33 rfl ?_
      first | with_reducible refine z_isubN hX dX6_write_34 (by omega) ?_ | refine z_isub hX dX6_write_34 ?_
      refine z_aload_n hX dX6_write_35 rfl ?_
      refine z_get hX dX6_write_36 f_6_57 rfl rfl ?_
      refine z_iload_n hX dX6_write_39 rfl ?_
      refine z_iload_n hX dX6_write_40 rfl ?_
      first | with_reducible refine z_iaddN hX dX6_write_41 ?_ | refine z_iadd hX dX6_write_41 ?_
      refine z_lald hX dX6_write_42 rfl (by omega) (by decide) ?_
      refine z_last (w' := [_, _, _, _, _, _, _, _, _, _, _, _, _, _, _, _, _, _, _, _]) hX dX6_write_43 rfl (by omega) (by decide) rfl ?_
      first | refine z_iincN (b := 1) (ls' := [_, _, _, _]) hX dX6_write_44 rfl rfl rfl ?_ | refine z_iinc (ls' := [_, _, _, _]) hX dX6_write_44 rfl rfl ?_
      refine z_goto (tgt := 19) hX dX6_write_47 (by decide) ?_
      refine ih (k + 1) (vp_updL sh (300 * d + k - 3) (sh (300 * d + k))) (by omega) (by omega) (by omega) (fun p => ?_)
      by_cases e0 : p = 300 * d + k - 3
      · rw [e0, pk_uLs, if_pos (by omega), hsh, if_neg (by omega), show 300 * d + k - 3 + 3 = 300 * d + k by omega]
      · rw [pk_uLn e0, hsh p]
        by_cases e2 : 300 * d ≤ p ∧ p + 3 < 300 * d + k
        · rw [if_pos e2, if_pos (by omega)]
        · rw [if_neg e2, if_neg (by omega)]
set_option maxHeartbeats 4000000 in
set_option maxRecDepth 100000 in
theorem c_X6_write (a : Nat → Nat → Int32) (b : Nat → Nat → Int64) (c : Nat → Int32) (d db mn : Nat) (hd : d < 4) (hdb : db < 9) (hmn : mn ≤ 100) (h15 : a 15 d = nI mn) (h12 : a 12 d = nI db) : ∀ l, ZC l yX6_write cX6_write 4 none 0 [.ref 0, .int (nI d)] (WM a b c) (fun r w' => r = none ∧ w' = WM (va_up a 15 (wrM (a 15) d mn)) (va_up b 16 (wrS (b 16) (b 9) (a 13 d) d db mn)) c) := by
  intro l
  refine zc_intro (oc := 6) (by decide +kernel) rfl (Nat.le_of_ble_eq_true rfl) ?_
  intro X hX hR
  refine z_norm (ls' := [_, _, _, _]) rfl rfl rfl ?_
  refine z_sipush (v := nI 300) hX dX6_write_0 rfl ?_
  refine z_iload_n hX dX6_write_3 rfl ?_
  first | with_reducible refine z_imulN hX dX6_write_4 ?_ | refine z_imul hX dX6_write_4 ?_
  refine z_istore_n (ls' := [_, _, _, _]) hX dX6_write_5 (Nat.le_of_ble_eq_true rfl) rfl ?_
  refine z_aload_n hX dX6_write_6 rfl ?_
  refine z_get hX dX6_write_7 f_6_54 rfl rfl ?_
  refine z_iload_n hX dX6_write_10 rfl ?_
  refine z_iald hX dX6_write_11 rfl (by omega) (by decide) ?_
  refine z_top h15 ?_
  refine z_bipush (v := nI 100) hX dX6_write_12 rfl ?_
  first | with_reducible refine z_icmp_neN (tgt := 60) hX dX6_write_14 (by decide) (by omega) (by omega) (fun c_14 => ?_) (fun c_14 => ?_) | refine z_icmp_ne (tgt := 60) hX dX6_write_14 (by decide) (fun c_14 => ?_) (fun c_14 => ?_)
  · -- 14 t
    refine z_iconst (v := nI 0) hX dX6_write_60 rfl ?_
    refine z_istore_n (ls' := [_, _, _, _]) hX dX6_write_61 (Nat.le_of_ble_eq_true rfl) rfl ?_
    refine lp_wr_62 hX hR a b c (a 15) (b 16) d mn db hd (by omega) hdb h15 h12 (fun sh1 e1 => ⟨rfl, ?_⟩) 4 0 (b 16) (by omega) (by omega) (fun p => by rw [if_neg (by omega)])
    have zE : wrE mn = mn := if_neg c_14
    have e2 : upd (a 15) d (nI (mn + 1)) = wrM (a 15) d mn := by
      funext p
      unfold wrM
      rw [zE]
      by_cases e : p = d
      · rw [e, pk_us, if_pos rfl]
      · rw [pk_un e, if_neg e]
    have e3 : sh1 = wrS (b 16) (b 9) (a 13 d) d db mn := by
      funext p
      rw [e1 p]
      unfold wrS
      rw [zE]
      by_cases e : 300 * d + 3 * mn ≤ p ∧ p < 300 * d + 3 * mn + 3
      · rw [if_pos e, if_pos e]
      · rw [if_neg e, if_neg e, if_neg (show ¬ (mn = 100 ∧ 300 * d ≤ p ∧ p < 300 * d + 297) by omega)]
    rw [e2, e3]
  · -- 14 f
    refine z_iconst (v := nI 3) hX dX6_write_17 rfl ?_
    refine z_istore_n (ls' := [_, _, _, _]) hX dX6_write_18 (Nat.le_of_ble_eq_true rfl) rfl ?_
    have zm : mn = 100 := by omega
    subst zm
    exact lp_wr_19 hX hR a b c d db hd hdb h15 h12 ⟨rfl, rfl⟩ 301 3 (b 16) (by omega) (by omega) (by omega) (fun p => by rw [if_neg (by omega)])
