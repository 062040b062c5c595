/-! ===== the reference: sources, doors, totals ===== -/
def srcF (it : Nat → Int32) (s : Nat) (n : Nat) : Int32 := zfold (fun k t => t + it (24 * s + k)) n (nI 0)
theorem srcF_s (it : Nat → Int32) (s n : Nat) : srcF it s (n + 1) = srcF it s n + it (24 * s + n) := rfl
set_option maxHeartbeats 4000000 in
set_option maxRecDepth 100000 in
theorem lp_X6_source_138 {X : ZX} {post : Option Value → ZW → Prop} (hX : ZOK X 6 cX6_source 2) (hR : ZRet X (some .int) post) (a : Nat → Nat → Int32) (b : Nat → Nat → Int64) (c : Nat → Int32) (f g s : Nat) (hf : f < 3) (hg : g < 9) (hs : s < 4) (y sv : Int32) (a7 rt0 : Nat → Int32) (hpost : ∀ rt, (∀ p, rt p = if 24 * f ≤ p ∧ p < 24 * f + 24 then a 6 (24 * s + (p - 24 * f)) else rt0 p) → post (some (.int sv)) (WM (va_up (va_up a 7 a7) 8 rt) b c)) : ∀ (n k : Nat) (rt : Nat → Int32), k ≤ 24 → 24 < k + n → (∀ p, rt p = if 24 * f ≤ p ∧ p < 24 * f + k then a 6 (24 * s + (p - 24 * f)) else rt0 p) → ZG X 138 [some (.ref 0), some (.int (nI f)), some (.int (nI g)), some (.int (nI s)), some (.int y), some (.int (nI 0)), some (.int sv), some (.int (nI k))] [] (WM (va_up (va_up a 7 a7) 8 rt) b c) := by
  intro n
  induction n with
  | zero => intro k rt z1 z2; omega
  | succ n ih =>
    intro k rt hk1 hk2 hrt
    refine z_iload hX dX6_source_138 rfl ?_
    refine z_bipush (v := nI 24) hX dX6_source_140 rfl ?_
    first | with_reducible refine z_icmp_geN (tgt := 175) hX dX6_source_142 (by decide) (by omega) (by omega) (fun c_142 => ?_) (fun c_142 => ?_) | refine z_icmp_ge (tgt := 175) hX dX6_source_142 (by decide) (fun c_142 => ?_) (fun c_142 => ?_)
    · -- 142 t
      have zk : k = 24 := by omega
      subst zk
      refine z_iload hX dX6_source_175 rfl ?_
      refine z_iret hX hR dX6_source_177 ?_
      exact hpost rt hrt
    · -- 142 f
      refine z_aload_n hX dX6_source_145 rfl ?_
      refine z_get hX dX6_source_146 f_6_32 rfl rfl ?_
      refine z_bipush (v := nI 24) hX dX6_source_149 rfl ?_
      refine z_iload_n hX dX6_source_151 rfl ?_
      first | with_reducible refine z_imulN hX dX6_source_152 ?_ | refine z_imul hX dX6_source_152 ?_
      refine z_iload hX dX6_source_153 rfl ?_
      first | with_reducible refine z_iaddN hX dX6_source_155 ?_ | refine z_iadd hX dX6_source_155 ?_
      refine z_aload_n hX dX6_source_156 rfl ?_
      refine z_get hX dX6_source_157 f_6_26 rfl rfl ?_
      refine z_bipush (v := nI 24) hX dX6_source_160 rfl ?_
      refine z_iload_n hX dX6_source_162 rfl ?_
      first | with_reducible refine z_imulN hX dX6_source_163 ?_ | refine z_imul hX dX6_source_163 ?_
      refine z_iload hX dX6_source_164 rfl ?_
      first | with_reducible refine z_iaddN hX dX6_source_166 ?_ | refine z_iadd hX dX6_source_166 ?_
      first | refine z_iald hX dX6_source_167 rfl (by omega) (by decide) ?_ | refine z_stld (nm := "FROM") (xs := zFROM) hX dX6_source_167 (fun _ _ _ _ h => h.1) (by show _ < 24; omega) (by decide) ?_ | refine z_stld (nm := "TO") (xs := zTO) hX dX6_source_167 (fun _ _ _ _ h => h.2.1) (by show _ < 24; omega) (by decide) ?_ | refine z_stld (nm := "FALL") (xs := zFALL) hX dX6_source_167 (fun _ _ _ _ h => h.2.2.1) (by show _ < 81; omega) (by decide) ?_
      refine z_iast (w' := [_, _, _, _, _, _, _, _, _, _, _, _, _, _, _, _, _, _, _, _]) hX dX6_source_168 rfl (by omega) (by decide) rfl ?_
      first | refine z_iincN (b := 1) (ls' := [_, _, _, _, _, _, _, _]) hX dX6_source_169 rfl rfl rfl ?_ | refine z_iinc (ls' := [_, _, _, _, _, _, _, _]) hX dX6_source_169 rfl rfl ?_
      refine z_goto (tgt := 138) hX dX6_source_172 (by decide) ?_
      refine ih (k + 1) (upd rt (24 * f + k) (a 6 (24 * s + k))) (by omega) (by omega) (fun p => ?_)
      by_cases e : p = 24 * f + k
      · rw [e, pk_us, if_pos (by omega), show 24 * f + k - 24 * f = k by omega]
      · rw [pk_un e, hrt p]
        by_cases e2 : 24 * f ≤ p ∧ p < 24 * f + k
        · rw [if_pos e2, if_pos (by omega)]
        · rw [if_neg e2, if_neg (by omega)]
set_option maxHeartbeats 4000000 in
set_option maxRecDepth 100000 in
theorem lp_X6_source_72 {X : ZX} {post : Option Value → ZW → Prop} (hX : ZOK X 6 cX6_source 2) (hR : ZRet X (some .int) post) (a : Nat → Nat → Int32) (b : Nat → Nat → Int64) (c : Nat → Int32) (f g s : Nat) (hf : f < 3) (hg : g < 9) (hs : s < 4) (y : Int32) (hpost1 : ¬ (∀ k, k < 24 → zB (a 6 (24 * s + k)) 0 1000000) → post (some (.int (-2))) (WM a b c)) (hpost2 : (∀ k, k < 24 → zB (a 6 (24 * s + k)) 0 1000000) → ∀ rt, (∀ p, rt p = if 24 * f ≤ p ∧ p < 24 * f + 24 then a 6 (24 * s + (p - 24 * f)) else a 8 p) → post (some (.int (srcF (a 6) s 24))) (WM (va_up (va_up a 7 (upd (a 7) f (nI g))) 8 rt) b c)) : ∀ (n k : Nat), k ≤ 24 → 24 < k + n → (∀ q, q < k → zB (a 6 (24 * s + q)) 0 1000000) → ZG X 72 [some (.ref 0), some (.int (nI f)), some (.int (nI g)), some (.int (nI s)), some (.int y), some (.int (nI 0)), some (.int (srcF (a 6) s k)), some (.int (nI k))] [] (WM a b c) := by
  intro n
  induction n with
  | zero => intro k z1 z2; omega
  | succ n ih =>
    intro k hk1 hk2 hin
    refine z_iload hX dX6_source_72 rfl ?_
    refine z_bipush (v := nI 24) hX dX6_source_74 rfl ?_
    first | with_reducible refine z_icmp_geN (tgt := 128) hX dX6_source_76 (by decide) (by omega) (by omega) (fun c_76 => ?_) (fun c_76 => ?_) | refine z_icmp_ge (tgt := 128) hX dX6_source_76 (by decide) (fun c_76 => ?_) (fun c_76 => ?_)
    · -- 76 t
      have zk : k = 24 := by omega
      subst zk
      refine z_aload_n hX dX6_source_128 rfl ?_
      refine z_get hX dX6_source_129 f_6_29 rfl rfl ?_
      refine z_iload_n hX dX6_source_132 rfl ?_
      refine z_iload_n hX dX6_source_133 rfl ?_
      refine z_iast (w' := [_, _, _, _, _, _, _, _, _, _, _, _, _, _, _, _, _, _, _, _]) hX dX6_source_134 rfl (by omega) (by decide) rfl ?_
      refine z_iconst (v := nI 0) hX dX6_source_135 rfl ?_
      refine z_istore (ls' := [_, _, _, _, _, _, _, _]) hX dX6_source_136 (Nat.le_of_ble_eq_true rfl) rfl ?_
      exact lp_X6_source_138 hX hR a b c f g s hf hg hs y _ _ (a 8) (fun rt e => hpost2 hin rt e) 25 0 (a 8) (by omega) (by omega) (fun p => by rw [if_neg (by omega)])
    · -- 76 f
      refine z_aload_n hX dX6_source_79 rfl ?_
      refine z_get hX dX6_source_80 f_6_26 rfl rfl ?_
      refine z_bipush (v := nI 24) hX dX6_source_83 rfl ?_
      refine z_iload_n hX dX6_source_85 rfl ?_
      first | with_reducible refine z_imulN hX dX6_source_86 ?_ | refine z_imul hX dX6_source_86 ?_
      refine z_iload hX dX6_source_87 rfl ?_
      first | with_reducible refine z_iaddN hX dX6_source_89 ?_ | refine z_iadd hX dX6_source_89 ?_
      first | refine z_iald hX dX6_source_90 rfl (by omega) (by decide) ?_ | refine z_stld (nm := "FROM") (xs := zFROM) hX dX6_source_90 (fun _ _ _ _ h => h.1) (by show _ < 24; omega) (by decide) ?_ | refine z_stld (nm := "TO") (xs := zTO) hX dX6_source_90 (fun _ _ _ _ h => h.2.1) (by show _ < 24; omega) (by decide) ?_ | refine z_stld (nm := "FALL") (xs := zFALL) hX dX6_source_90 (fun _ _ _ _ h => h.2.2.1) (by show _ < 81; omega) (by decide) ?_
      refine z_i2l hX dX6_source_91 ?_
      refine z_lconst (v := 0) hX dX6_source_92 rfl ?_
      refine z_ldc2 hX dX6_source_93 k_6_121 ?_
      refine z_callS0 hX dX6_source_96 ms_6_71 (c_X6_in _ _ _ _) (by decide) rfl rfl (Nat.le_of_ble_eq_true rfl) (fun r w1 hp _ => ?_)
      obtain ⟨rfl, hp⟩ := hp
      rcases zinB (a := 0) (b := 1000000) rfl rfl hp with ⟨hB, rfl⟩ | ⟨hnB, rfl⟩
      · -- 96 T
        refine z_if_ne (tgt := 105) hX dX6_source_99 (by decide) (fun _ => ?_) (fun c => absurd c (by decide))
        refine z_iload hX dX6_source_105 rfl ?_
        refine z_aload_n hX dX6_source_107 rfl ?_
        refine z_get hX dX6_source_108 f_6_26 rfl rfl ?_
        refine z_bipush (v := nI 24) hX dX6_source_111 rfl ?_
        refine z_iload_n hX dX6_source_113 rfl ?_
        first | with_reducible refine z_imulN hX dX6_source_114 ?_ | refine z_imul hX dX6_source_114 ?_
        refine z_iload hX dX6_source_115 rfl ?_
        first | with_reducible refine z_iaddN hX dX6_source_117 ?_ | refine z_iadd hX dX6_source_117 ?_
        first | refine z_iald hX dX6_source_118 rfl (by omega) (by decide) ?_ | refine z_stld (nm := "FROM") (xs := zFROM) hX dX6_source_118 (fun _ _ _ _ h => h.1) (by show _ < 24; omega) (by decide) ?_ | refine z_stld (nm := "TO") (xs := zTO) hX dX6_source_118 (fun _ _ _ _ h => h.2.1) (by show _ < 24; omega) (by decide) ?_ | refine z_stld (nm := "FALL") (xs := zFALL) hX dX6_source_118 (fun _ _ _ _ h => h.2.2.1) (by show _ < 81; omega) (by decide) ?_
        first | with_reducible refine z_iaddN hX dX6_source_119 ?_ | refine z_iadd hX dX6_source_119 ?_
        refine z_istore (ls' := [_, _, _, _, _, _, _, _]) hX dX6_source_120 (Nat.le_of_ble_eq_true rfl) rfl ?_
        first | refine z_iincN (b := 1) (ls' := [_, _, _, _, _, _, _, _]) hX dX6_source_122 rfl rfl rfl ?_ | refine z_iinc (ls' := [_, _, _, _, _, _, _, _]) hX dX6_source_122 rfl rfl ?_
        refine z_goto (tgt := 72) hX dX6_source_125 (by decide) ?_
        exact ih (k + 1) (by omega) (by omega) (fun q hq => by rcases (show q < k ∨ q = k by omega) with e | e; exact hin q e; rw [e]; exact hB)
      · -- 96 F
        refine z_if_ne (tgt := 105) hX dX6_source_99 (by decide) (fun c => absurd c (by decide)) (fun _ => ?_)
        refine z_bipush (v := -2) hX dX6_source_102 rfl ?_
        refine z_iret hX hR dX6_source_104 ?_
        exact hpost1 (fun q => hnB (q k (by omega)))
set_option maxHeartbeats 4000000 in
set_option maxRecDepth 100000 in
theorem c_X6_source (a : Nat → Nat → Int32) (b : Nat → Nat → Int64) (c : Nat → Int32) (hsz : ∀ k, k < 4 → ∃ n, n ≤ 24 ∧ a 5 k = nI n) (x y z u : Int32) : ∀ l, ZC l yX6_source cX6_source 8 (some .int) 2 [.ref 0, .int x, .int y, .int z, .int u] (WM a b c) (fun r w' => (¬ (zJ x 3 ∧ zJ y 9 ∧ zJ z 4 ∧ zJ u 2) ∧ r = some (.int (-1)) ∧ w' = WM a b c) ∨ ∃ f g s l n, f < 3 ∧ g < 9 ∧ s < 4 ∧ l < 2 ∧ x = nI f ∧ y = nI g ∧ z = nI s ∧ u = nI l ∧ a 5 s = nI n ∧ n ≤ 24 ∧ ((¬ a 4 s = nI l ∧ ¬ 0 ≤ a 4 s ∧ r = some (.int (-11)) ∧ w' = WM a b c) ∨ (¬ a 4 s = nI l ∧ 0 ≤ a 4 s ∧ r = some (.int (-12)) ∧ w' = WM a b c) ∨ (a 4 s = nI l ∧ n < 24 ∧ r = some (.int (-13)) ∧ w' = WM a b c) ∨ (a 4 s = nI l ∧ 24 ≤ n ∧ ¬ (∀ k, k < 24 → zB (a 6 (24 * s + k)) 0 1000000) ∧ r = some (.int (-2)) ∧ w' = WM a b c) ∨ ∃ rt, a 4 s = nI l ∧ 24 ≤ n ∧ (∀ k, k < 24 → zB (a 6 (24 * s + k)) 0 1000000) ∧ r = some (.int (srcF (a 6) s 24)) ∧ (∀ p, rt p = if 24 * f ≤ p ∧ p < 24 * f + 24 then a 6 (24 * s + (p - 24 * f)) else a 8 p) ∧ w' = WM (va_up (va_up a 7 (upd (a 7) f (nI g))) 8 rt) b c)) := by
  intro l
  refine zc_intro (oc := 6) (by decide +kernel) rfl (Nat.le_of_ble_eq_true rfl) ?_
  intro X hX hR
  refine z_norm (ls' := [_, _, _, _, _, _, _, _]) rfl rfl rfl ?_
  refine z_iload_n hX dX6_source_0 rfl ?_
  first | with_reducible refine z_i2lN hX dX6_source_1 (by omega) ?_ | refine z_i2l hX dX6_source_1 ?_
  refine z_lconst (v := 0) hX dX6_source_2 rfl ?_
  refine z_ldc2 hX dX6_source_3 k_6_79 ?_
  refine z_callS0 hX dX6_source_6 ms_6_71 (c_X6_in _ _ _ _) (by decide) rfl rfl (Nat.le_of_ble_eq_true rfl) (fun r w1 hp _ => ?_)
  obtain ⟨rfl, hp⟩ := hp
  rcases zinJ (n := 3) rfl (by decide) hp with ⟨⟨f, hf, rfl⟩, rfl⟩ | ⟨hn_f, rfl⟩
  · -- 6 T
    refine z_if_eq (tgt := 33) hX dX6_source_9 (by decide) (fun c => absurd c (by decide)) (fun _ => ?_)
    refine z_iload_n hX dX6_source_12 rfl ?_
    first | with_reducible refine z_i2lN hX dX6_source_13 (by omega) ?_ | refine z_i2l hX dX6_source_13 ?_
    refine z_lconst (v := 0) hX dX6_source_14 rfl ?_
    refine z_ldc2 hX dX6_source_15 k_6_92 ?_
    refine z_callS0 hX dX6_source_18 ms_6_71 (c_X6_in _ _ _ _) (by decide) rfl rfl (Nat.le_of_ble_eq_true rfl) (fun r w1 hp _ => ?_)
    obtain ⟨rfl, hp⟩ := hp
    rcases zinJ (n := 9) rfl (by decide) hp with ⟨⟨g, hg, rfl⟩, rfl⟩ | ⟨hn_g, rfl⟩
    · -- 18 T
      refine z_if_eq (tgt := 33) hX dX6_source_21 (by decide) (fun c => absurd c (by decide)) (fun _ => ?_)
      refine z_iload_n hX dX6_source_24 rfl ?_
      refine z_iload hX dX6_source_25 rfl ?_
      refine z_callS0 hX dX6_source_27 ms_6_114 (c_X6_isSheet _ _ _) (by decide) rfl rfl (Nat.le_of_ble_eq_true rfl) (fun r w1 hp _ => ?_)
      obtain ⟨rfl, hp⟩ := hp
      rcases hp with ⟨⟨sn, hs, rfl⟩, ⟨ln, hl, rfl⟩, rfl⟩ | ⟨hnS, rfl⟩
      · -- 27 T
        obtain ⟨zn, hz1, hz2⟩ := hsz sn hs
        refine z_if_ne (tgt := 35) hX dX6_source_30 (by decide) (fun _ => ?_) (fun c => absurd c (by decide))
        refine z_aload_n hX dX6_source_35 rfl ?_
        refine z_iload_n hX dX6_source_36 rfl ?_
        refine z_iload hX dX6_source_37 rfl ?_
        refine z_callV0 hX dX6_source_39 mv_6_118 (c_X6_against a b c sn hs _) (by decide) rfl rfl rfl rfl (Nat.le_of_ble_eq_true rfl) (fun r w1 hp _ => ?_)
        obtain ⟨rfl, ⟨hA, rfl⟩ | ⟨hA, hA2, rfl⟩ | ⟨hA, hA2, rfl⟩⟩ := hp
        · -- 39 case 0
          refine z_istore (ls' := [_, _, _, _, _, _, _, _]) hX dX6_source_42 (Nat.le_of_ble_eq_true rfl) rfl ?_
          refine z_iload hX dX6_source_44 rfl ?_
          refine z_if_ge (tgt := 52) hX dX6_source_46 (by decide) (fun c_46 => ?_) (fun c_46 => ?_)
          · -- 46 t
            refine z_aload_n hX dX6_source_52 rfl ?_
            refine z_get hX dX6_source_53 f_6_23 rfl rfl ?_
            refine z_iload_n hX dX6_source_56 rfl ?_
            refine z_iald hX dX6_source_57 rfl (by omega) (by decide) ?_
            rw [hz2]
            refine z_bipush (v := nI 24) hX dX6_source_58 rfl ?_
            first | with_reducible refine z_icmp_geN (tgt := 66) hX dX6_source_60 (by decide) (by omega) (by omega) (fun c_60 => ?_) (fun c_60 => ?_) | refine z_icmp_ge (tgt := 66) hX dX6_source_60 (by decide) (fun c_60 => ?_) (fun c_60 => ?_)
            · -- 60 t
              refine z_iconst (v := nI 0) hX dX6_source_66 rfl ?_
              refine z_istore (ls' := [_, _, _, _, _, _, _, _]) hX dX6_source_67 (Nat.le_of_ble_eq_true rfl) rfl ?_
              refine z_iconst (v := nI 0) hX dX6_source_69 rfl ?_
              refine z_istore (ls' := [_, _, _, _, _, _, _, _]) hX dX6_source_70 (Nat.le_of_ble_eq_true rfl) rfl ?_
              exact lp_X6_source_72 hX hR a b c f g sn hf hg hs _ (fun e => Or.inr ⟨f, g, sn, ln, zn, hf, hg, hs, hl, rfl, rfl, rfl, rfl, hz2, hz1, Or.inr (Or.inr (Or.inr (Or.inl ⟨hA, c_60, e, rfl, rfl⟩)))⟩) (fun e rt e2 => Or.inr ⟨f, g, sn, ln, zn, hf, hg, hs, hl, rfl, rfl, rfl, rfl, hz2, hz1, Or.inr (Or.inr (Or.inr (Or.inr ⟨rt, hA, c_60, e, rfl, e2, rfl⟩)))⟩) 25 0 (by omega) (by omega) (fun q hq => by omega)
            · -- 60 f
              refine z_bipush (v := -13) hX dX6_source_63 rfl ?_
              refine z_iret hX hR dX6_source_65 ?_
              first | exact Or.inl ⟨fun q => hn_f q.1, rfl, rfl⟩ | exact Or.inl ⟨fun q => hn_g q.2.1, rfl, rfl⟩ | exact Or.inl ⟨fun q => hnS q.2.2, rfl, rfl⟩ | exact Or.inr ⟨f, g, sn, ln, zn, hf, hg, hs, hl, rfl, rfl, rfl, rfl, hz2, hz1, Or.inl ⟨hA, hA2, rfl, rfl⟩⟩ | exact Or.inr ⟨f, g, sn, ln, zn, hf, hg, hs, hl, rfl, rfl, rfl, rfl, hz2, hz1, Or.inr (Or.inl ⟨hA, hA2, rfl, rfl⟩)⟩ | exact Or.inr ⟨f, g, sn, ln, zn, hf, hg, hs, hl, rfl, rfl, rfl, rfl, hz2, hz1, Or.inr (Or.inr (Or.inl ⟨hA, c_60, rfl, rfl⟩))⟩
          · -- 46 f
            exact absurd (by decide) c_46
        · -- 39 case 1
          refine z_istore (ls' := [_, _, _, _, _, _, _, _]) hX dX6_source_42 (Nat.le_of_ble_eq_true rfl) rfl ?_
          refine z_iload hX dX6_source_44 rfl ?_
          refine z_if_ge (tgt := 52) hX dX6_source_46 (by decide) (fun c_46 => ?_) (fun c_46 => ?_)
          · -- 46 t
            exact absurd c_46 (by decide)
          · -- 46 f
            refine z_iload hX dX6_source_49 rfl ?_
            refine z_iret hX hR dX6_source_51 ?_
            first | exact Or.inl ⟨fun q => hn_f q.1, rfl, rfl⟩ | exact Or.inl ⟨fun q => hn_g q.2.1, rfl, rfl⟩ | exact Or.inl ⟨fun q => hnS q.2.2, rfl, rfl⟩ | exact Or.inr ⟨f, g, sn, ln, zn, hf, hg, hs, hl, rfl, rfl, rfl, rfl, hz2, hz1, Or.inl ⟨hA, hA2, rfl, rfl⟩⟩ | exact Or.inr ⟨f, g, sn, ln, zn, hf, hg, hs, hl, rfl, rfl, rfl, rfl, hz2, hz1, Or.inr (Or.inl ⟨hA, hA2, rfl, rfl⟩)⟩ | exact Or.inr ⟨f, g, sn, ln, zn, hf, hg, hs, hl, rfl, rfl, rfl, rfl, hz2, hz1, Or.inr (Or.inr (Or.inl ⟨hA, c_60, rfl, rfl⟩))⟩
        · -- 39 case 2
          refine z_istore (ls' := [_, _, _, _, _, _, _, _]) hX dX6_source_42 (Nat.le_of_ble_eq_true rfl) rfl ?_
          refine z_iload hX dX6_source_44 rfl ?_
          refine z_if_ge (tgt := 52) hX dX6_source_46 (by decide) (fun c_46 => ?_) (fun c_46 => ?_)
          · -- 46 t
            exact absurd c_46 (by decide)
          · -- 46 f
            refine z_iload hX dX6_source_49 rfl ?_
            refine z_iret hX hR dX6_source_51 ?_
            first | exact Or.inl ⟨fun q => hn_f q.1, rfl, rfl⟩ | exact Or.inl ⟨fun q => hn_g q.2.1, rfl, rfl⟩ | exact Or.inl ⟨fun q => hnS q.2.2, rfl, rfl⟩ | exact Or.inr ⟨f, g, sn, ln, zn, hf, hg, hs, hl, rfl, rfl, rfl, rfl, hz2, hz1, Or.inl ⟨hA, hA2, rfl, rfl⟩⟩ | exact Or.inr ⟨f, g, sn, ln, zn, hf, hg, hs, hl, rfl, rfl, rfl, rfl, hz2, hz1, Or.inr (Or.inl ⟨hA, hA2, rfl, rfl⟩)⟩ | exact Or.inr ⟨f, g, sn, ln, zn, hf, hg, hs, hl, rfl, rfl, rfl, rfl, hz2, hz1, Or.inr (Or.inr (Or.inl ⟨hA, c_60, rfl, rfl⟩))⟩
      · -- 27 F
        refine z_if_ne (tgt := 35) hX dX6_source_30 (by decide) (fun c => absurd c (by decide)) (fun _ => ?_)
        refine z_iconst (v := -1) hX dX6_source_33 rfl ?_
        refine z_iret hX hR dX6_source_34 ?_
        first | exact Or.inl ⟨fun q => hn_f q.1, rfl, rfl⟩ | exact Or.inl ⟨fun q => hn_g q.2.1, rfl, rfl⟩ | exact Or.inl ⟨fun q => hnS q.2.2, rfl, rfl⟩ | exact Or.inr ⟨f, g, sn, ln, zn, hf, hg, hs, hl, rfl, rfl, rfl, rfl, hz2, hz1, Or.inl ⟨hA, hA2, rfl, rfl⟩⟩ | exact Or.inr ⟨f, g, sn, ln, zn, hf, hg, hs, hl, rfl, rfl, rfl, rfl, hz2, hz1, Or.inr (Or.inl ⟨hA, hA2, rfl, rfl⟩)⟩ | exact Or.inr ⟨f, g, sn, ln, zn, hf, hg, hs, hl, rfl, rfl, rfl, rfl, hz2, hz1, Or.inr (Or.inr (Or.inl ⟨hA, c_60, rfl, rfl⟩))⟩
    · -- 18 F
      refine z_if_eq (tgt := 33) hX dX6_source_21 (by decide) (fun _ => ?_) (fun c => absurd c (by decide))
      refine z_iconst (v := -1) hX dX6_source_33 rfl ?_
      refine z_iret hX hR dX6_source_34 ?_
      first | exact Or.inl ⟨fun q => hn_f q.1, rfl, rfl⟩ | exact Or.inl ⟨fun q => hn_g q.2.1, rfl, rfl⟩ | exact Or.inl ⟨fun q => hnS q.2.2, rfl, rfl⟩ | exact Or.inr ⟨f, g, sn, ln, zn, hf, hg, hs, hl, rfl, rfl, rfl, rfl, hz2, hz1, Or.inl ⟨hA, hA2, rfl, rfl⟩⟩ | exact Or.inr ⟨f, g, sn, ln, zn, hf, hg, hs, hl, rfl, rfl, rfl, rfl, hz2, hz1, Or.inr (Or.inl ⟨hA, hA2, rfl, rfl⟩)⟩ | exact Or.inr ⟨f, g, sn, ln, zn, hf, hg, hs, hl, rfl, rfl, rfl, rfl, hz2, hz1, Or.inr (Or.inr (Or.inl ⟨hA, c_60, rfl, rfl⟩))⟩
  · -- 6 F
    refine z_if_eq (tgt := 33) hX dX6_source_9 (by decide) (fun _ => ?_) (fun c => absurd c (by decide))
    refine z_iconst (v := -1) hX dX6_source_33 rfl ?_
    refine z_iret hX hR dX6_source_34 ?_
    first | exact Or.inl ⟨fun q => hn_f q.1, rfl, rfl⟩ | exact Or.inl ⟨fun q => hn_g q.2.1, rfl, rfl⟩ | exact Or.inl ⟨fun q => hnS q.2.2, rfl, rfl⟩ | exact Or.inr ⟨f, g, sn, ln, zn, hf, hg, hs, hl, rfl, rfl, rfl, rfl, hz2, hz1, Or.inl ⟨hA, hA2, rfl, rfl⟩⟩ | exact Or.inr ⟨f, g, sn, ln, zn, hf, hg, hs, hl, rfl, rfl, rfl, rfl, hz2, hz1, Or.inr (Or.inl ⟨hA, hA2, rfl, rfl⟩)⟩ | exact Or.inr ⟨f, g, sn, ln, zn, hf, hg, hs, hl, rfl, rfl, rfl, rfl, hz2, hz1, Or.inr (Or.inr (Or.inl ⟨hA, c_60, rfl, rfl⟩))⟩
set_option maxHeartbeats 4000000 in
set_option maxRecDepth 100000 in
theorem c_X6_grains (a : Nat → Nat → Int32) (b : Nat → Nat → Int64) (c : Nat → Int32) (x y : Int32) : ∀ l, ZC l yX6_grains cX6_grains 3 (some .long) 1 [.ref 0, .int x, .int y] (WM a b c) (fun r w' => w' = WM a b c ∧ ((¬ (zJ x 3 ∧ zJ y 9) ∧ r = some (.long (-1))) ∨ ∃ f g, f < 3 ∧ g < 9 ∧ x = nI f ∧ y = nI g ∧ r = some (.long (b 9 (9 * f + g))))) := by
  intro l
  refine zc_intro (oc := 6) (by decide +kernel) rfl (Nat.le_of_ble_eq_true rfl) ?_
  intro X hX hR
  refine z_norm (ls' := [_, _, _]) rfl rfl rfl ?_
  refine z_iload_n hX dX6_grains_0 rfl ?_
  first | with_reducible refine z_i2lN hX dX6_grains_1 (by omega) ?_ | refine z_i2l hX dX6_grains_1 ?_
  refine z_lconst (v := 0) hX dX6_grains_2 rfl ?_
  refine z_ldc2 hX dX6_grains_3 k_6_79 ?_
  refine z_callS0 hX dX6_grains_6 ms_6_71 (c_X6_in _ _ _ _) (by decide) rfl rfl (Nat.le_of_ble_eq_true rfl) (fun r w1 hp _ => ?_)
  obtain ⟨rfl, hp⟩ := hp
  rcases zinJ (n := 3) rfl (by decide) hp with ⟨⟨f, hf, rfl⟩, rfl⟩ | ⟨hn_f, rfl⟩
  · -- 6 T
    refine z_if_eq (tgt := 38) hX dX6_grains_9 (by decide) (fun c => absurd c (by decide)) (fun _ => ?_)
    refine z_iload_n hX dX6_grains_12 rfl ?_
    first | with_reducible refine z_i2lN hX dX6_grains_13 (by omega) ?_ | refine z_i2l hX dX6_grains_13 ?_
    refine z_lconst (v := 0) hX dX6_grains_14 rfl ?_
    refine z_ldc2 hX dX6_grains_15 k_6_92 ?_
    refine z_callS0 hX dX6_grains_18 ms_6_71 (c_X6_in _ _ _ _) (by decide) rfl rfl (Nat.le_of_ble_eq_true rfl) (fun r w1 hp _ => ?_)
    obtain ⟨rfl, hp⟩ := hp
    rcases zinJ (n := 9) rfl (by decide) hp with ⟨⟨g, hg, rfl⟩, rfl⟩ | ⟨hn_g, rfl⟩
    · -- 18 T
      refine z_if_eq (tgt := 38) hX dX6_grains_21 (by decide) (fun c => absurd c (by decide)) (fun _ => ?_)
      refine z_aload_n hX dX6_grains_24 rfl ?_
      refine z_get hX dX6_grains_25 f_6_35 rfl rfl ?_
      refine z_bipush (v := nI 9) hX dX6_grains_28 rfl ?_
      refine z_iload_n hX dX6_grains_30 rfl ?_
      first | with_reducible refine z_imulN hX dX6_grains_31 ?_ | refine z_imul hX dX6_grains_31 ?_
      refine z_iload_n hX dX6_grains_32 rfl ?_
      first | with_reducible refine z_iaddN hX dX6_grains_33 ?_ | refine z_iadd hX dX6_grains_33 ?_
      refine z_lald hX dX6_grains_34 rfl (by omega) (by decide) ?_
      refine z_goto (tgt := 41) hX dX6_grains_35 (by decide) ?_
      refine z_lret hX hR dX6_grains_41 ?_
      first | exact ⟨rfl, Or.inl ⟨fun q => hn_f q.1, rfl⟩⟩ | exact ⟨rfl, Or.inl ⟨fun q => hn_g q.2, rfl⟩⟩ | exact ⟨rfl, Or.inr ⟨f, g, hf, hg, rfl, rfl, rfl⟩⟩
    · -- 18 F
      refine z_if_eq (tgt := 38) hX dX6_grains_21 (by decide) (fun _ => ?_) (fun c => absurd c (by decide))
      refine z_ldc2 hX dX6_grains_38 k_6_99 ?_
      refine z_lret hX hR dX6_grains_41 ?_
      first | exact ⟨rfl, Or.inl ⟨fun q => hn_f q.1, rfl⟩⟩ | exact ⟨rfl, Or.inl ⟨fun q => hn_g q.2, rfl⟩⟩ | exact ⟨rfl, Or.inr ⟨f, g, hf, hg, rfl, rfl, rfl⟩⟩
  · -- 6 F
    refine z_if_eq (tgt := 38) hX dX6_grains_9 (by decide) (fun _ => ?_) (fun c => absurd c (by decide))
    refine z_ldc2 hX dX6_grains_38 k_6_99 ?_
    refine z_lret hX hR dX6_grains_41 ?_
    first | exact ⟨rfl, Or.inl ⟨fun q => hn_f q.1, rfl⟩⟩ | exact ⟨rfl, Or.inl ⟨fun q => hn_g q.2, rfl⟩⟩ | exact ⟨rfl, Or.inr ⟨f, g, hf, hg, rfl, rfl, rfl⟩⟩
def sum9 (g : Nat → Int64) (n : Nat) : Int64 := zfold (fun k t => t + g k) n 0
theorem sum9_s (g : Nat → Int64) (n : Nat) : sum9 g (n + 1) = sum9 g n + g n := rfl
set_option maxHeartbeats 4000000 in
set_option maxRecDepth 100000 in
theorem lp_X6_total_49 {X : ZX} {post : Option Value → ZW → Prop} (hX : ZOK X 6 cX6_total 1) (hR : ZRet X (some .long) post) (a : Nat → Nat → Int32) (b : Nat → Nat → Int64) (c : Nat → Int32) (f : Nat) (hf : f < 3) (y : Int32) (hpost : post (some (.long (sum9 (fun k => b 9 (9 * f + k)) 9))) (WM a b c)) : ∀ (n k : Nat), k ≤ 9 → 9 < k + n → ZG X 49 [some (.ref 0), some (.int (nI f)), some (.int y), some (.long (sum9 (fun k => b 9 (9 * f + k)) k)), none, some (.int (nI k))] [] (WM a b c) := by
  intro n
  induction n with
  | zero => intro k z1 z2; omega
  | succ n ih =>
    intro k hk1 hk2
    refine z_iload hX dX6_total_49 rfl ?_
    refine z_bipush (v := nI 9) hX dX6_total_51 rfl ?_
    first | with_reducible refine z_icmp_geN (tgt := 77) hX dX6_total_53 (by decide) (by omega) (by omega) (fun c_53 => ?_) (fun c_53 => ?_) | refine z_icmp_ge (tgt := 77) hX dX6_total_53 (by decide) (fun c_53 => ?_) (fun c_53 => ?_)
    · -- 53 t
      have zk : k = 9 := by omega
      subst zk
      refine z_lload_n hX dX6_total_77 rfl ?_
      refine z_lret hX hR dX6_total_78 ?_
      exact hpost
    · -- 53 f
      refine z_lload_n hX dX6_total_56 rfl ?_
      refine z_aload_n hX dX6_total_57 rfl ?_
      refine z_get hX dX6_total_58 f_6_35 rfl rfl ?_
      refine z_bipush (v := nI 9) hX dX6_total_61 rfl ?_
      refine z_iload_n hX dX6_total_63 rfl ?_
      first | with_reducible refine z_imulN hX dX6_total_64 ?_ | refine z_imul hX dX6_total_64 ?_
      refine z_iload hX dX6_total_65 rfl ?_
      first | with_reducible refine z_iaddN hX dX6_total_67 ?_ | refine z_iadd hX dX6_total_67 ?_
      refine z_lald hX dX6_total_68 rfl (by omega) (by decide) ?_
      refine z_ladd hX dX6_total_69 ?_
      refine z_lstore_n (ls' := [_, _, _, _, _, _]) hX dX6_total_70 (Nat.le_of_ble_eq_true rfl) rfl ?_
      first | refine z_iincN (b := 1) (ls' := [_, _, _, _, _, _]) hX dX6_total_71 rfl rfl rfl ?_ | refine z_iinc (ls' := [_, _, _, _, _, _]) hX dX6_total_71 rfl rfl ?_
      refine z_goto (tgt := 49) hX dX6_total_74 (by decide) ?_
      exact ih (k + 1) (by omega) (by omega)
set_option maxHeartbeats 4000000 in
set_option maxRecDepth 100000 in
theorem c_X6_total (a : Nat → Nat → Int32) (b : Nat → Nat → Int64) (c : Nat → Int32) (x y : Int32) : ∀ l, ZC l yX6_total cX6_total 6 (some .long) 1 [.ref 0, .int x, .int y] (WM a b c) (fun r w' => w' = WM a b c ∧ ((¬ (zJ x 3 ∧ zJ y 5) ∧ r = some (.long (-1))) ∨ ∃ f g, f < 3 ∧ g < 5 ∧ x = nI f ∧ y = nI g ∧ r = some (.long (if g < 4 then b 10 (4 * f + g) else sum9 (fun k => b 9 (9 * f + k)) 9)))) := by
  intro l
  refine zc_intro (oc := 6) (by decide +kernel) rfl (Nat.le_of_ble_eq_true rfl) ?_
  intro X hX hR
  refine z_norm (ls' := [_, _, _, _, _, _]) rfl rfl rfl ?_
  refine z_iload_n hX dX6_total_0 rfl ?_
  first | with_reducible refine z_i2lN hX dX6_total_1 (by omega) ?_ | refine z_i2l hX dX6_total_1 ?_
  refine z_lconst (v := 0) hX dX6_total_2 rfl ?_
  refine z_ldc2 hX dX6_total_3 k_6_79 ?_
  refine z_callS0 hX dX6_total_6 ms_6_71 (c_X6_in _ _ _ _) (by decide) rfl rfl (Nat.le_of_ble_eq_true rfl) (fun r w1 hp _ => ?_)
  obtain ⟨rfl, hp⟩ := hp
  rcases zinJ (n := 3) rfl (by decide) hp with ⟨⟨f, hf, rfl⟩, rfl⟩ | ⟨hn_f, rfl⟩
  · -- 6 T
    refine z_if_eq (tgt := 24) hX dX6_total_9 (by decide) (fun c => absurd c (by decide)) (fun _ => ?_)
    refine z_iload_n hX dX6_total_12 rfl ?_
    first | with_reducible refine z_i2lN hX dX6_total_13 (by omega) ?_ | refine z_i2l hX dX6_total_13 ?_
    refine z_lconst (v := 0) hX dX6_total_14 rfl ?_
    refine z_ldc2 hX dX6_total_15 k_6_97 ?_
    refine z_callS0 hX dX6_total_18 ms_6_71 (c_X6_in _ _ _ _) (by decide) rfl rfl (Nat.le_of_ble_eq_true rfl) (fun r w1 hp _ => ?_)
    obtain ⟨rfl, hp⟩ := hp
    rcases zinJ (n := 5) rfl (by decide) hp with ⟨⟨g, hg, rfl⟩, rfl⟩ | ⟨hn_g, rfl⟩
    · -- 18 T
      refine z_if_ne (tgt := 28) hX dX6_total_21 (by decide) (fun _ => ?_) (fun c => absurd c (by decide))
      refine z_iload_n hX dX6_total_28 rfl ?_
      refine z_iconst (v := nI 4) hX dX6_total_29 rfl ?_
      first | with_reducible refine z_icmp_geN (tgt := 44) hX dX6_total_30 (by decide) (by omega) (by omega) (fun c_30 => ?_) (fun c_30 => ?_) | refine z_icmp_ge (tgt := 44) hX dX6_total_30 (by decide) (fun c_30 => ?_) (fun c_30 => ?_)
      · -- 30 t
        refine z_lconst (v := 0) hX dX6_total_44 rfl ?_
        refine z_lstore_n (ls' := [_, _, _, _, _, _]) hX dX6_total_45 (Nat.le_of_ble_eq_true rfl) rfl ?_
        refine z_iconst (v := nI 0) hX dX6_total_46 rfl ?_
        refine z_istore (ls' := [_, _, _, _, _, _]) hX dX6_total_47 (Nat.le_of_ble_eq_true rfl) rfl ?_
        exact lp_X6_total_49 hX hR a b c f hf _ ⟨rfl, Or.inr ⟨f, g, hf, hg, rfl, rfl, by rw [if_neg (by omega)]⟩⟩ 10 0 (by omega) (by omega)
      · -- 30 f
        refine z_aload_n hX dX6_total_33 rfl ?_
        refine z_get hX dX6_total_34 f_6_38 rfl rfl ?_
        refine z_iconst (v := nI 4) hX dX6_total_37 rfl ?_
        refine z_iload_n hX dX6_total_38 rfl ?_
        first | with_reducible refine z_imulN hX dX6_total_39 ?_ | refine z_imul hX dX6_total_39 ?_
        refine z_iload_n hX dX6_total_40 rfl ?_
        first | with_reducible refine z_iaddN hX dX6_total_41 ?_ | refine z_iadd hX dX6_total_41 ?_
        refine z_lald hX dX6_total_42 rfl (by omega) (by decide) ?_
        refine z_lret hX hR dX6_total_43 ?_
        first | exact ⟨rfl, Or.inl ⟨fun q => hn_f q.1, rfl⟩⟩ | exact ⟨rfl, Or.inl ⟨fun q => hn_g q.2, rfl⟩⟩ | exact ⟨rfl, Or.inr ⟨f, g, hf, hg, rfl, rfl, by rw [if_pos c_30]⟩⟩
    · -- 18 F
      refine z_if_ne (tgt := 28) hX dX6_total_21 (by decide) (fun c => absurd c (by decide)) (fun _ => ?_)
      refine z_ldc2 hX dX6_total_24 k_6_99 ?_
      refine z_lret hX hR dX6_total_27 ?_
      first | exact ⟨rfl, Or.inl ⟨fun q => hn_f q.1, rfl⟩⟩ | exact ⟨rfl, Or.inl ⟨fun q => hn_g q.2, rfl⟩⟩ | exact ⟨rfl, Or.inr ⟨f, g, hf, hg, rfl, rfl, by rw [if_pos c_30]⟩⟩
  · -- 6 F
    refine z_if_eq (tgt := 24) hX dX6_total_9 (by decide) (fun _ => ?_) (fun c => absurd c (by decide))
    refine z_ldc2 hX dX6_total_24 k_6_99 ?_
    refine z_lret hX hR dX6_total_27 ?_
    first | exact ⟨rfl, Or.inl ⟨fun q => hn_f q.1, rfl⟩⟩ | exact ⟨rfl, Or.inl ⟨fun q => hn_g q.2, rfl⟩⟩ | exact ⟨rfl, Or.inr ⟨f, g, hf, hg, rfl, rfl, by rw [if_pos c_30]⟩⟩
set_option maxHeartbeats 4000000 in
set_option maxRecDepth 100000 in
theorem c_X6_door (a : Nat → Nat → Int32) (b : Nat → Nat → Int64) (c : Nat → Int32) (x y : Int32) : ∀ l, ZC l yX6_door cX6_door 4 (some .int) 2 [.ref 0, .int x, .int y] (WM a b c) (fun r w' => (¬ (zJ x 4 ∧ zJ y 9) ∧ r = some (.int (-1)) ∧ w' = WM a b c) ∨ ∃ d g, d < 4 ∧ g < 9 ∧ x = nI d ∧ y = nI g ∧ r = some (.int (a 15 d)) ∧ w' = WM (va_up (va_up a 12 (upd (a 12) d (nI g))) 15 (upd (a 15) d (nI 0))) b c) := by
  intro l
  refine zc_intro (oc := 6) (by decide +kernel) rfl (Nat.le_of_ble_eq_true rfl) ?_
  intro X hX hR
  refine z_norm (ls' := [_, _, _, _]) rfl rfl rfl ?_
  refine z_iload_n hX dX6_door_0 rfl ?_
  refine z_callS0 hX dX6_door_1 ms_6_131 (c_X6_isDoor _ _) (by decide) rfl rfl (Nat.le_of_ble_eq_true rfl) (fun r w1 hp _ => ?_)
  obtain ⟨rfl, ⟨⟨d, hd, rfl⟩, rfl⟩ | ⟨hn_d, rfl⟩⟩ := hp
  · -- 1 T
    refine z_if_eq (tgt := 19) hX dX6_door_4 (by decide) (fun c => absurd c (by decide)) (fun _ => ?_)
    refine z_iload_n hX dX6_door_7 rfl ?_
    first | with_reducible refine z_i2lN hX dX6_door_8 (by omega) ?_ | refine z_i2l hX dX6_door_8 ?_
    refine z_lconst (v := 0) hX dX6_door_9 rfl ?_
    refine z_ldc2 hX dX6_door_10 k_6_92 ?_
    refine z_callS0 hX dX6_door_13 ms_6_71 (c_X6_in _ _ _ _) (by decide) rfl rfl (Nat.le_of_ble_eq_true rfl) (fun r w1 hp _ => ?_)
    obtain ⟨rfl, hp⟩ := hp
    rcases zinJ (n := 9) rfl (by decide) hp with ⟨⟨g, hg, rfl⟩, rfl⟩ | ⟨hn_g, rfl⟩
    · -- 13 T
      refine z_if_ne (tgt := 21) hX dX6_door_16 (by decide) (fun _ => ?_) (fun c => absurd c (by decide))
      refine z_aload_n hX dX6_door_21 rfl ?_
      refine z_get hX dX6_door_22 f_6_54 rfl rfl ?_
      refine z_iload_n hX dX6_door_25 rfl ?_
      first | refine z_iald hX dX6_door_26 rfl (by omega) (by decide) ?_ | refine z_stld (nm := "FROM") (xs := zFROM) hX dX6_door_26 (fun _ _ _ _ h => h.1) (by show _ < 24; omega) (by decide) ?_ | refine z_stld (nm := "TO") (xs := zTO) hX dX6_door_26 (fun _ _ _ _ h => h.2.1) (by show _ < 24; omega) (by decide) ?_ | refine z_stld (nm := "FALL") (xs := zFALL) hX dX6_door_26 (fun _ _ _ _ h => h.2.2.1) (by show _ < 81; omega) (by decide) ?_
      refine z_istore_n (ls' := [_, _, _, _]) hX dX6_door_27 (Nat.le_of_ble_eq_true rfl) rfl ?_
      refine z_aload_n hX dX6_door_28 rfl ?_
      refine z_get hX dX6_door_29 f_6_44 rfl rfl ?_
      refine z_iload_n hX dX6_door_32 rfl ?_
      refine z_iload_n hX dX6_door_33 rfl ?_
      refine z_iast (w' := [_, _, _, _, _, _, _, _, _, _, _, _, _, _, _, _, _, _, _, _]) hX dX6_door_34 rfl (by omega) (by decide) rfl ?_
      refine z_aload_n hX dX6_door_35 rfl ?_
      refine z_get hX dX6_door_36 f_6_54 rfl rfl ?_
      refine z_iload_n hX dX6_door_39 rfl ?_
      refine z_iconst (v := nI 0) hX dX6_door_40 rfl ?_
      refine z_iast (w' := [_, _, _, _, _, _, _, _, _, _, _, _, _, _, _, _, _, _, _, _]) hX dX6_door_41 rfl (by omega) (by decide) rfl ?_
      refine z_iload_n hX dX6_door_42 rfl ?_
      refine z_iret hX hR dX6_door_43 ?_
      first | exact Or.inl ⟨fun q => hn_d q.1, rfl, rfl⟩ | exact Or.inl ⟨fun q => hn_g q.2, rfl, rfl⟩ | exact Or.inr ⟨d, g, hd, hg, rfl, rfl, rfl, rfl⟩
    · -- 13 F
      refine z_if_ne (tgt := 21) hX dX6_door_16 (by decide) (fun c => absurd c (by decide)) (fun _ => ?_)
      refine z_iconst (v := -1) hX dX6_door_19 rfl ?_
      refine z_iret hX hR dX6_door_20 ?_
      first | exact Or.inl ⟨fun q => hn_d q.1, rfl, rfl⟩ | exact Or.inl ⟨fun q => hn_g q.2, rfl, rfl⟩ | exact Or.inr ⟨d, g, hd, hg, rfl, rfl, rfl, rfl⟩
  · -- 1 F
    refine z_if_eq (tgt := 19) hX dX6_door_4 (by decide) (fun _ => ?_) (fun c => absurd c (by decide))
    refine z_iconst (v := -1) hX dX6_door_19 rfl ?_
    refine z_iret hX hR dX6_door_20 ?_
    first | exact Or.inl ⟨fun q => hn_d q.1, rfl, rfl⟩ | exact Or.inl ⟨fun q => hn_g q.2, rfl, rfl⟩ | exact Or.inr ⟨d, g, hd, hg, rfl, rfl, rfl, rfl⟩
set_option maxHeartbeats 4000000 in
set_option maxRecDepth 100000 in
theorem c_X6_lose (a : Nat → Nat → Int32) (b : Nat → Nat → Int64) (c : Nat → Int32) (x y : Int32) (hy : y = 0 ∨ y = 1) : ∀ l, ZC l yX6_lose cX6_lose 4 (some .int) 2 [.ref 0, .int x, .int y] (WM a b c) (fun r w' => (¬ zJ x 4 ∧ r = some (.int (-1)) ∧ w' = WM a b c) ∨ ∃ d, d < 4 ∧ x = nI d ∧ r = some (.int (if a 13 d = 0 then nI 0 else nI 1)) ∧ w' = WM (va_up a 13 (upd (a 13) d y)) b c) := by
  intro l
  refine zc_intro (oc := 6) (by decide +kernel) rfl (Nat.le_of_ble_eq_true rfl) ?_
  intro X hX hR
  refine z_norm (ls' := [_, _, _, _]) rfl rfl rfl ?_
  refine z_iload_n hX dX6_lose_0 rfl ?_
  refine z_callS0 hX dX6_lose_1 ms_6_131 (c_X6_isDoor _ _) (by decide) rfl rfl (Nat.le_of_ble_eq_true rfl) (fun r w1 hp _ => ?_)
  obtain ⟨rfl, ⟨⟨d, hd, rfl⟩, rfl⟩ | ⟨hn_d, rfl⟩⟩ := hp
  · -- 1 T
    refine z_if_ne (tgt := 9) hX dX6_lose_4 (by decide) (fun _ => ?_) (fun c => absurd c (by decide))
    refine z_aload_n hX dX6_lose_9 rfl ?_
    refine z_get hX dX6_lose_10 f_6_47 rfl rfl ?_
    refine z_iload_n hX dX6_lose_13 rfl ?_
    refine z_zald hX dX6_lose_14 rfl (by omega) (by decide) ?_
    refine z_if_eq (tgt := 22) hX dX6_lose_15 (by decide) (fun c_15 => ?_) (fun c_15 => ?_)
    · -- 15 t
      refine z_iconst (v := nI 0) hX dX6_lose_22 rfl ?_
      refine z_istore_n (ls' := [_, _, _, _]) hX dX6_lose_23 (Nat.le_of_ble_eq_true rfl) rfl ?_
      refine z_aload_n hX dX6_lose_24 rfl ?_
      refine z_get hX dX6_lose_25 f_6_47 rfl rfl ?_
      refine z_iload_n hX dX6_lose_28 rfl ?_
      refine z_iload_n hX dX6_lose_29 rfl ?_
      refine z_zast (w' := [_, _, _, _, _, _, _, _, _, _, _, _, _, _, _, _, _, _, _, _]) hX dX6_lose_30 rfl (by omega) (by decide) (by first | exact Or.inl rfl | exact Or.inr rfl | assumption) rfl ?_
      refine z_iload_n hX dX6_lose_31 rfl ?_
      refine z_iret hX hR dX6_lose_32 ?_
      first | exact Or.inl ⟨hn_d, rfl, rfl⟩ | exact Or.inr ⟨d, hd, rfl, by rw [if_pos c_15], rfl⟩ | exact Or.inr ⟨d, hd, rfl, by rw [if_neg c_15], rfl⟩
    · -- 15 f
      refine z_iconst (v := nI 1) hX dX6_lose_18 rfl ?_
      refine z_goto (tgt := 23) hX dX6_lose_19 (by decide) ?_
      refine z_istore_n (ls' := [_, _, _, _]) hX dX6_lose_23 (Nat.le_of_ble_eq_true rfl) rfl ?_
      refine z_aload_n hX dX6_lose_24 rfl ?_
      refine z_get hX dX6_lose_25 f_6_47 rfl rfl ?_
      refine z_iload_n hX dX6_lose_28 rfl ?_
      refine z_iload_n hX dX6_lose_29 rfl ?_
      refine z_zast (w' := [_, _, _, _, _, _, _, _, _, _, _, _, _, _, _, _, _, _, _, _]) hX dX6_lose_30 rfl (by omega) (by decide) (by first | exact Or.inl rfl | exact Or.inr rfl | assumption) rfl ?_
      refine z_iload_n hX dX6_lose_31 rfl ?_
      refine z_iret hX hR dX6_lose_32 ?_
      first | exact Or.inl ⟨hn_d, rfl, rfl⟩ | exact Or.inr ⟨d, hd, rfl, by rw [if_pos c_15], rfl⟩ | exact Or.inr ⟨d, hd, rfl, by rw [if_neg c_15], rfl⟩
  · -- 1 F
    refine z_if_ne (tgt := 9) hX dX6_lose_4 (by decide) (fun c => absurd c (by decide)) (fun _ => ?_)
    refine z_iconst (v := -1) hX dX6_lose_7 rfl ?_
    refine z_iret hX hR dX6_lose_8 ?_
    first | exact Or.inl ⟨hn_d, rfl, rfl⟩ | exact Or.inr ⟨d, hd, rfl, by rw [if_pos c_15], rfl⟩ | exact Or.inr ⟨d, hd, rfl, by rw [if_neg c_15], rfl⟩
