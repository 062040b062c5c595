/-! ===== the reference: what the doors have kept ===== -/
def nuF (sh : Nat → Int64) (d k : Nat) : Int64 := if 0 ≤ sh (300 * d + 3 * k) then sh (300 * d + 3 * k) + sh (300 * d + 3 * k + 1) + sh (300 * d + 3 * k + 2) else -1
def toldF (sh : Nat → Int64) (d n : Nat) : Nat := zfold (fun k t => t + if 0 ≤ nuF sh d k then 1 else 0) n 0
theorem toldF_s (sh : Nat → Int64) (d n : Nat) : toldF sh d (n + 1) = toldF sh d n + if 0 ≤ nuF sh d n then 1 else 0 := rfl
theorem toldF_le (sh : Nat → Int64) (d : Nat) : ∀ n, toldF sh d n ≤ n
  | 0 => Nat.le_refl 0
  | n + 1 => by
    have := toldF_le sh d n
    rw [toldF_s]
    split <;> omega
def sumF (sh : Nat → Int64) (d n : Nat) : Int64 := zfold (fun k t => t + if 0 ≤ nuF sh d k then nuF sh d k else 0) n 0
theorem sumF_s (sh : Nat → Int64) (d n : Nat) : sumF sh d (n + 1) = sumF sh d n + if 0 ≤ nuF sh d n then nuF sh d n else 0 := rfl
theorem lN_ne {n : Nat} (h0 : ¬ n = 0) (h : n < 2147483648) : ¬ lN n = 0 := by
  intro e
  have := (lN_eq (a := n) (b := 0) h (by decide)).mp e
  omega
theorem zinS2 {x : Int32} {n : Nat} {r : Option Value} (hn : n ≤ 100) (hp : (0 ≤ x.toInt64 ∧ x.toInt64 ≤ (nI n - nI 1).toInt64 ∧ r = some (.int (nI 1))) ∨ (¬ (0 ≤ x.toInt64 ∧ x.toInt64 ≤ (nI n - nI 1).toInt64) ∧ r = some (.int (nI 0)))) : (zJ x n ∧ r = some (.int (nI 1))) ∨ (¬ zJ x n ∧ r = some (.int (nI 0))) := by
  refine zinJ ?_ (by omega) hp
  rw [Int32.toInt_toInt64, pk_sub_toInt (by omega) (by omega)]
  omega
set_option maxHeartbeats 4000000 in
set_option maxRecDepth 100000 in
theorem c_X6_numberAt (a : Nat → Nat → Int32) (b : Nat → Nat → Int64) (c : Nat → Int32) (d k : Nat) (hd : d < 4) (hk : k < 100) : ∀ l, ZC l yX6_numberAt cX6_numberAt 4 (some .long) 0 [.ref 0, .int (nI d), .int (nI k)] (WM a b c) (fun r w' => w' = WM a b c ∧ r = some (.long (nuF (b 16) d k))) := by
  intro l
  refine zc_intro (oc := 6) (by decide +kernel) rfl (Nat.le_of_ble_eq_true rfl) ?_
  intro X hX hR
  refine z_norm (ls' := [_, _, _, _]) rfl rfl rfl ?_
  refine z_sipush (v := nI 300) hX dX6_numberAt_0 rfl ?_
  refine z_iload_n hX dX6_numberAt_3 rfl ?_
  first | with_reducible refine z_imulN hX dX6_numberAt_4 ?_ | refine z_imul hX dX6_numberAt_4 ?_
  refine z_iconst (v := nI 3) hX dX6_numberAt_5 rfl ?_
  refine z_iload_n hX dX6_numberAt_6 rfl ?_
  first | with_reducible refine z_imulN hX dX6_numberAt_7 ?_ | refine z_imul hX dX6_numberAt_7 ?_
  first | with_reducible refine z_iaddN hX dX6_numberAt_8 ?_ | refine z_iadd hX dX6_numberAt_8 ?_
  refine z_istore_n (ls' := [_, _, _, _]) hX dX6_numberAt_9 (Nat.le_of_ble_eq_true rfl) rfl ?_
  refine z_aload_n hX dX6_numberAt_10 rfl ?_
  refine z_get hX dX6_numberAt_11 f_6_57 rfl rfl ?_
  refine z_iload_n hX dX6_numberAt_14 rfl ?_
  refine z_lald hX dX6_numberAt_15 rfl (by omega) (by decide) ?_
  refine z_lconst (v := 0) hX dX6_numberAt_16 rfl ?_
  refine z_lcmp hX dX6_numberAt_17 ?_
  refine z_lif_ge (tgt := 27) hX dX6_numberAt_18 (by decide) (fun c_18 => ?_) (fun c_18 => ?_)
  · -- 18 t
    refine z_aload_n hX dX6_numberAt_27 rfl ?_
    refine z_get hX dX6_numberAt_28 f_6_57 rfl rfl ?_
    refine z_iload_n hX dX6_numberAt_31 rfl ?_
    refine z_lald hX dX6_numberAt_32 rfl (by omega) (by decide) ?_
    refine z_aload_n hX dX6_numberAt_33 rfl ?_
    refine z_get hX dX6_numberAt_34 f_6_57 rfl rfl ?_
    refine z_iload_n hX dX6_numberAt_37 rfl ?_
    refine z_iconst (v := nI 1) hX dX6_numberAt_38 rfl ?_
    first | with_reducible refine z_iaddN hX dX6_numberAt_39 ?_ | refine z_iadd hX dX6_numberAt_39 ?_
    refine z_lald hX dX6_numberAt_40 rfl (by omega) (by decide) ?_
    refine z_ladd hX dX6_numberAt_41 ?_
    refine z_aload_n hX dX6_numberAt_42 rfl ?_
    refine z_get hX dX6_numberAt_43 f_6_57 rfl rfl ?_
    refine z_iload_n hX dX6_numberAt_46 rfl ?_
    refine z_iconst (v := nI 2) hX dX6_numberAt_47 rfl ?_
    first | with_reducible refine z_iaddN hX dX6_numberAt_48 ?_ | refine z_iadd hX dX6_numberAt_48 ?_
    refine z_lald hX dX6_numberAt_49 rfl (by omega) (by decide) ?_
    refine z_ladd hX dX6_numberAt_50 ?_
    refine z_lret hX hR dX6_numberAt_51 ?_
    refine ⟨rfl, ?_⟩
    unfold nuF
    rw [if_pos c_18]
  · -- 18 f
    refine z_ldc2 hX dX6_numberAt_21 k_6_99 ?_
    refine z_goto (tgt := 51) hX dX6_numberAt_24 (by decide) ?_
    refine z_lret hX hR dX6_numberAt_51 ?_
    refine ⟨rfl, ?_⟩
    unfold nuF
    rw [if_neg (Int64.not_le.mpr c_18)]
set_option maxHeartbeats 4000000 in
set_option maxRecDepth 100000 in
theorem lp_told_4 {X : ZX} {post : Option Value → ZW → Prop} (hX : ZOK X 6 cX6_told 1) (hR : ZRet X (some .int) post) (a : Nat → Nat → Int32) (b : Nat → Nat → Int64) (c : Nat → Int32) (d mn : Nat) (hd : d < 4) (hmn : mn ≤ 100) (h15 : a 15 d = nI mn) (hpost : post (some (.int (nI (toldF (b 16) d mn)))) (WM a b c)) : ∀ (n k : Nat), k ≤ mn → mn < k + n → ZG X 4 [some (.ref 0), some (.int (nI d)), some (.int (nI (toldF (b 16) d k))), some (.int (nI k))] [] (WM a b c) := by
  intro n
  induction n with
  | zero => intro k z1 z2; omega
  | succ n ih =>
    intro k hk1 hk2
    refine z_iload_n hX dX6_told_4 rfl ?_
    refine z_aload_n hX dX6_told_5 rfl ?_
    refine z_get hX dX6_told_6 f_6_54 rfl rfl ?_
    refine z_iload_n hX dX6_told_9 rfl ?_
    refine z_iald hX dX6_told_10 rfl (by omega) (by decide) ?_
    refine z_top h15 ?_
    first | with_reducible refine z_icmp_geN (tgt := 39) hX dX6_told_11 (by decide) (by omega) (by omega) (fun c_11 => ?_) (fun c_11 => ?_) | refine z_icmp_ge (tgt := 39) hX dX6_told_11 (by decide) (fun c_11 => ?_) (fun c_11 => ?_)
    · -- 11 t
      have zk : k = mn := by omega
      subst zk
      refine z_iload_n hX dX6_told_39 rfl ?_
      refine z_iret hX hR dX6_told_40 ?_
      exact hpost
    · -- 11 f
      have ih2 := ih (k + 1) (by omega) (by omega)
      rw [toldF_s] at ih2
      refine z_iload_n hX dX6_told_14 rfl ?_
      refine z_aload_n hX dX6_told_15 rfl ?_
      refine z_iload_n hX dX6_told_16 rfl ?_
      refine z_iload_n hX dX6_told_17 rfl ?_
      refine z_callV0 hX dX6_told_18 mv_6_145 (c_X6_numberAt a b c d k (by omega) (by omega)) (by decide) rfl rfl rfl rfl (Nat.le_of_ble_eq_true rfl) (fun r w1 hp _ => ?_)
      obtain ⟨rfl, rfl⟩ := hp
      refine z_lconst (v := 0) hX dX6_told_21 rfl ?_
      refine z_lcmp hX dX6_told_22 ?_
      refine z_lif_ge (tgt := 30) hX dX6_told_23 (by decide) (fun c_23 => ?_) (fun c_23 => ?_)
      · -- 23 t
        refine z_iconst (v := nI 1) hX dX6_told_30 rfl ?_
        first | with_reducible refine z_iaddN hX dX6_told_31 ?_ | refine z_iadd hX dX6_told_31 ?_
        refine z_istore_n (ls' := [_, _, _, _]) hX dX6_told_32 (Nat.le_of_ble_eq_true rfl) rfl ?_
        first | refine z_iincN (b := 1) (ls' := [_, _, _, _]) hX dX6_told_33 rfl rfl rfl ?_ | refine z_iinc (ls' := [_, _, _, _]) hX dX6_told_33 rfl rfl ?_
        refine z_goto (tgt := 4) hX dX6_told_36 (by decide) ?_
        rw [if_pos c_23] at ih2
        exact ih2
      · -- 23 f
        refine z_iconst (v := nI 0) hX dX6_told_26 rfl ?_
        refine z_goto (tgt := 31) hX dX6_told_27 (by decide) ?_
        first | with_reducible refine z_iaddN hX dX6_told_31 ?_ | refine z_iadd hX dX6_told_31 ?_
        refine z_istore_n (ls' := [_, _, _, _]) hX dX6_told_32 (Nat.le_of_ble_eq_true rfl) rfl ?_
        first | refine z_iincN (b := 1) (ls' := [_, _, _, _]) hX dX6_told_33 rfl rfl rfl ?_ | refine z_iinc (ls' := [_, _, _, _]) hX dX6_told_33 rfl rfl ?_
        refine z_goto (tgt := 4) hX dX6_told_36 (by decide) ?_
        rw [if_neg (Int64.not_le.mpr c_23)] at ih2
        exact ih2
set_option maxHeartbeats 4000000 in
set_option maxRecDepth 100000 in
theorem c_X6_told (a : Nat → Nat → Int32) (b : Nat → Nat → Int64) (c : Nat → Int32) (d mn : Nat) (hd : d < 4) (hmn : mn ≤ 100) (h15 : a 15 d = nI mn) : ∀ l, ZC l yX6_told cX6_told 4 (some .int) 1 [.ref 0, .int (nI d)] (WM a b c) (fun r w' => w' = WM a b c ∧ r = some (.int (nI (toldF (b 16) d mn)))) := by
  intro l
  refine zc_intro (oc := 6) (by decide +kernel) rfl (Nat.le_of_ble_eq_true rfl) ?_
  intro X hX hR
  refine z_norm (ls' := [_, _, _, _]) rfl rfl rfl ?_
  refine z_iconst (v := nI 0) hX dX6_told_0 rfl ?_
  refine z_istore_n (ls' := [_, _, _, _]) hX dX6_told_1 (Nat.le_of_ble_eq_true rfl) rfl ?_
  refine z_iconst (v := nI 0) hX dX6_told_2 rfl ?_
  refine z_istore_n (ls' := [_, _, _, _]) hX dX6_told_3 (Nat.le_of_ble_eq_true rfl) rfl ?_
  exact lp_told_4 hX hR a b c d mn hd hmn h15 ⟨rfl, rfl⟩ (mn + 1) 0 (by omega) (by omega)
set_option maxHeartbeats 4000000 in
set_option maxRecDepth 100000 in
theorem c_X6_kept (a : Nat → Nat → Int32) (b : Nat → Nat → Int64) (c : Nat → Int32) (hok : okM (a 15)) (x y : Int32) : ∀ l, ZC l yX6_kept cX6_kept 3 (some .int) 2 [.ref 0, .int x, .int y] (WM a b c) (fun r w' => w' = WM a b c ∧ ((¬ (zJ x 4 ∧ zJ y 2) ∧ r = some (.int (-1))) ∨ ∃ d l mn, d < 4 ∧ l < 2 ∧ mn ≤ 100 ∧ x = nI d ∧ y = nI l ∧ a 15 d = nI mn ∧ r = some (.int (nI (if l = 0 then mn else toldF (b 16) d mn))))) := by
  intro l
  refine zc_intro (oc := 6) (by decide +kernel) rfl (Nat.le_of_ble_eq_true rfl) ?_
  intro X hX hR
  refine z_norm (ls' := [_, _, _]) rfl rfl rfl ?_
  refine z_iload_n hX dX6_kept_0 rfl ?_
  refine z_callS0 hX dX6_kept_1 ms_6_131 (c_X6_isDoor _ _) (by decide) rfl rfl (Nat.le_of_ble_eq_true rfl) (fun r w1 hp _ => ?_)
  obtain ⟨rfl, ⟨⟨d, hd, rfl⟩, rfl⟩ | ⟨hn_d, rfl⟩⟩ := hp
  · -- 1 T
    obtain ⟨mn, hmn, h15⟩ := hok d hd
    refine z_if_eq (tgt := 17) hX dX6_kept_4 (by decide) (fun c => absurd c (by decide)) (fun _ => ?_)
    refine z_iload_n hX dX6_kept_7 rfl ?_
    first | with_reducible refine z_i2lN hX dX6_kept_8 (by omega) ?_ | refine z_i2l hX dX6_kept_8 ?_
    refine z_lconst (v := 0) hX dX6_kept_9 rfl ?_
    refine z_lconst (v := 1) hX dX6_kept_10 rfl ?_
    refine z_callS0 hX dX6_kept_11 ms_6_71 (c_X6_in _ _ _ _) (by decide) rfl rfl (Nat.le_of_ble_eq_true rfl) (fun r w1 hp _ => ?_)
    obtain ⟨rfl, hp⟩ := hp
    rcases zinJ (n := 2) rfl (by decide) hp with ⟨⟨l, hl, rfl⟩, rfl⟩ | ⟨hn_l, rfl⟩
    · -- 11 T
      refine z_if_ne (tgt := 21) hX dX6_kept_14 (by decide) (fun _ => ?_) (fun c => absurd c (by decide))
      refine z_iload_n hX dX6_kept_21 rfl ?_
      refine z_if_ne (tgt := 34) hX dX6_kept_22 (by decide) (fun c_22 => ?_) (fun c_22 => ?_)
      · -- 22 t
        have c_22 : ¬ l = 0 := fun q => c_22 (by rw [q]; rfl)
        refine z_aload_n hX dX6_kept_34 rfl ?_
        refine z_iload_n hX dX6_kept_35 rfl ?_
        refine z_callV0 hX dX6_kept_36 mv_6_151 (c_X6_told a b c d mn hd hmn h15) (by decide) rfl rfl rfl rfl (Nat.le_of_ble_eq_true rfl) (fun r w1 hp _ => ?_)
        obtain ⟨rfl, rfl⟩ := hp
        refine z_iret hX hR dX6_kept_39 ?_
        exact ⟨rfl, Or.inr ⟨d, l, mn, hd, hl, hmn, rfl, rfl, h15, by rw [if_neg c_22]⟩⟩
      · -- 22 f
        have c_22 : l = 0 := (nI_eq (by omega) (by omega)).mp c_22
        refine z_aload_n hX dX6_kept_25 rfl ?_
        refine z_get hX dX6_kept_26 f_6_54 rfl rfl ?_
        refine z_iload_n hX dX6_kept_29 rfl ?_
        refine z_iald hX dX6_kept_30 rfl (by omega) (by decide) ?_
        refine z_top h15 ?_
        refine z_goto (tgt := 39) hX dX6_kept_31 (by decide) ?_
        refine z_iret hX hR dX6_kept_39 ?_
        exact ⟨rfl, Or.inr ⟨d, l, mn, hd, hl, hmn, rfl, rfl, h15, by rw [if_pos c_22]⟩⟩
    · -- 11 F
      refine z_if_ne (tgt := 21) hX dX6_kept_14 (by decide) (fun c => absurd c (by decide)) (fun _ => ?_)
      refine z_iconst (v := -1) hX dX6_kept_17 rfl ?_
      refine z_goto (tgt := 39) hX dX6_kept_18 (by decide) ?_
      refine z_iret hX hR dX6_kept_39 ?_
      exact ⟨rfl, Or.inl ⟨fun q => hn_l q.2, rfl⟩⟩
  · -- 1 F
    refine z_if_eq (tgt := 17) hX dX6_kept_4 (by decide) (fun _ => ?_) (fun c => absurd c (by decide))
    refine z_iconst (v := -1) hX dX6_kept_17 rfl ?_
    refine z_goto (tgt := 39) hX dX6_kept_18 (by decide) ?_
    refine z_iret hX hR dX6_kept_39 ?_
    exact ⟨rfl, Or.inl ⟨fun q => hn_d q.1, rfl⟩⟩
set_option maxHeartbeats 4000000 in
set_option maxRecDepth 100000 in
theorem lp_mean_22 {X : ZX} {post : Option Value → ZW → Prop} (hX : ZOK X 6 cX6_mean 2) (hR : ZRet X (some .long) post) (a : Nat → Nat → Int32) (b : Nat → Nat → Int64) (c : Nat → Int32) (d mn : Nat) (hd : d < 4) (hmn : mn ≤ 100) (h15 : a 15 d = nI mn) (tn : Nat) (htn : tn ≤ 100) (hpost : post (some (.long (if tn = 0 then -4 else sumF (b 16) d mn / lN tn))) (WM a b c)) : ∀ (n k : Nat), k ≤ mn → mn < k + n → ZG X 22 [some (.ref 0), some (.int (nI d)), some (.int (nI tn)), some (.long (sumF (b 16) d k)), none, some (.int (nI k)), none, none] [] (WM a b c) := by
  intro n
  induction n with
  | zero => intro k z1 z2; omega
  | succ n ih =>
    intro k hk1 hk2
    refine z_iload hX dX6_mean_22 rfl ?_
    refine z_aload_n hX dX6_mean_24 rfl ?_
    refine z_get hX dX6_mean_25 f_6_54 rfl rfl ?_
    refine z_iload_n hX dX6_mean_28 rfl ?_
    refine z_iald hX dX6_mean_29 rfl (by omega) (by decide) ?_
    refine z_top h15 ?_
    first | with_reducible refine z_icmp_geN (tgt := 64) hX dX6_mean_30 (by decide) (by omega) (by omega) (fun c_30 => ?_) (fun c_30 => ?_) | refine z_icmp_ge (tgt := 64) hX dX6_mean_30 (by decide) (fun c_30 => ?_) (fun c_30 => ?_)
    · -- 30 t
      have zk : k = mn := by omega
      subst zk
      refine z_iload_n hX dX6_mean_64 rfl ?_
      refine z_if_ne (tgt := 74) hX dX6_mean_65 (by decide) (fun c_65 => ?_) (fun c_65 => ?_)
      · -- 65 t
        have c_65 : ¬ tn = 0 := fun q => c_65 (by rw [q]; rfl)
        rw [if_neg c_65] at hpost
        refine z_lload_n hX dX6_mean_74 rfl ?_
        refine z_iload_n hX dX6_mean_75 rfl ?_
        first | with_reducible refine z_i2lN hX dX6_mean_76 (by omega) ?_ | refine z_i2l hX dX6_mean_76 ?_
        refine z_ldiv hX dX6_mean_77 (lN_ne c_65 (by omega)) ?_
        refine z_lret hX hR dX6_mean_78 ?_
        exact hpost
      · -- 65 f
        have c_65 : tn = 0 := (nI_eq (by omega) (by omega)).mp c_65
        rw [if_pos c_65] at hpost
        refine z_ldc2 hX dX6_mean_68 k_6_149 ?_
        refine z_goto (tgt := 78) hX dX6_mean_71 (by decide) ?_
        refine z_lret hX hR dX6_mean_78 ?_
        exact hpost
    · -- 30 f
      have ih2 := ih (k + 1) (by omega) (by omega)
      rw [sumF_s] at ih2
      refine z_aload_n hX dX6_mean_33 rfl ?_
      refine z_iload_n hX dX6_mean_34 rfl ?_
      refine z_iload hX dX6_mean_35 rfl ?_
      refine z_callV0 hX dX6_mean_37 mv_6_145 (c_X6_numberAt a b c d k (by omega) (by omega)) (by decide) rfl rfl rfl rfl (Nat.le_of_ble_eq_true rfl) (fun r w1 hp _ => ?_)
      obtain ⟨rfl, rfl⟩ := hp
      refine z_lstore (ls' := [_, _, _, _, _, _, _, _]) hX dX6_mean_40 (Nat.le_of_ble_eq_true rfl) rfl ?_
      refine z_lload_n hX dX6_mean_42 rfl ?_
      refine z_lload hX dX6_mean_43 rfl ?_
      refine z_lconst (v := 0) hX dX6_mean_45 rfl ?_
      refine z_lcmp hX dX6_mean_46 ?_
      refine z_lif_ge (tgt := 54) hX dX6_mean_47 (by decide) (fun c_47 => ?_) (fun c_47 => ?_)
      · -- 47 t
        refine z_lload hX dX6_mean_54 rfl ?_
        refine z_ladd hX dX6_mean_56 ?_
        refine z_lstore_n (ls' := [_, _, _, _, _, _, _, _]) hX dX6_mean_57 (Nat.le_of_ble_eq_true rfl) rfl ?_
        first | refine z_iincN (b := 1) (ls' := [_, _, _, _, _, _, _, _]) hX dX6_mean_58 rfl rfl rfl ?_ | refine z_iinc (ls' := [_, _, _, _, _, _, _, _]) hX dX6_mean_58 rfl rfl ?_
        refine z_goto (tgt := 22) hX dX6_mean_61 (by decide) ?_
        rw [if_pos c_47] at ih2
        refine z_forget (ls' := [some (.ref 0), some _, some _, some _, none, some _, none, none]) ⟨rfl, rfl, rfl, rfl, rfl, trivial⟩ ih2
      · -- 47 f
        refine z_lconst (v := 0) hX dX6_mean_50 rfl ?_
        refine z_goto (tgt := 56) hX dX6_mean_51 (by decide) ?_
        refine z_ladd hX dX6_mean_56 ?_
        refine z_lstore_n (ls' := [_, _, _, _, _, _, _, _]) hX dX6_mean_57 (Nat.le_of_ble_eq_true rfl) rfl ?_
        first | refine z_iincN (b := 1) (ls' := [_, _, _, _, _, _, _, _]) hX dX6_mean_58 rfl rfl rfl ?_ | refine z_iinc (ls' := [_, _, _, _, _, _, _, _]) hX dX6_mean_58 rfl rfl ?_
        refine z_goto (tgt := 22) hX dX6_mean_61 (by decide) ?_
        rw [if_neg (Int64.not_le.mpr c_47)] at ih2
        refine z_forget (ls' := [some (.ref 0), some _, some _, some _, none, some _, none, none]) ⟨rfl, rfl, rfl, rfl, rfl, trivial⟩ ih2
set_option maxHeartbeats 4000000 in
set_option maxRecDepth 100000 in
theorem c_X6_mean (a : Nat → Nat → Int32) (b : Nat → Nat → Int64) (c : Nat → Int32) (hok : okM (a 15)) (x : Int32) : ∀ l, ZC l yX6_mean cX6_mean 8 (some .long) 2 [.ref 0, .int x] (WM a b c) (fun r w' => w' = WM a b c ∧ ((¬ zJ x 4 ∧ r = some (.long (-1))) ∨ ∃ d mn, d < 4 ∧ mn ≤ 100 ∧ x = nI d ∧ a 15 d = nI mn ∧ r = some (.long (if toldF (b 16) d mn = 0 then -4 else sumF (b 16) d mn / lN (toldF (b 16) d mn))))) := by
  intro l
  refine zc_intro (oc := 6) (by decide +kernel) rfl (Nat.le_of_ble_eq_true rfl) ?_
  intro X hX hR
  refine z_norm (ls' := [_, _, _, _, _, _, _, _]) rfl rfl rfl ?_
  refine z_iload_n hX dX6_mean_0 rfl ?_
  refine z_callS0 hX dX6_mean_1 ms_6_131 (c_X6_isDoor _ _) (by decide) rfl rfl (Nat.le_of_ble_eq_true rfl) (fun r w1 hp _ => ?_)
  obtain ⟨rfl, ⟨⟨d, hd, rfl⟩, rfl⟩ | ⟨hn_d, rfl⟩⟩ := hp
  · -- 1 T
    obtain ⟨mn, hmn, h15⟩ := hok d hd
    refine z_if_ne (tgt := 11) hX dX6_mean_4 (by decide) (fun _ => ?_) (fun c => absurd c (by decide))
    refine z_aload_n hX dX6_mean_11 rfl ?_
    refine z_iload_n hX dX6_mean_12 rfl ?_
    refine z_callV0 hX dX6_mean_13 mv_6_151 (c_X6_told a b c d mn hd hmn h15) (by decide) rfl rfl rfl rfl (Nat.le_of_ble_eq_true rfl) (fun r w1 hp _ => ?_)
    obtain ⟨rfl, rfl⟩ := hp
    refine z_istore_n (ls' := [_, _, _, _, _, _, _, _]) hX dX6_mean_16 (Nat.le_of_ble_eq_true rfl) rfl ?_
    refine z_lconst (v := 0) hX dX6_mean_17 rfl ?_
    refine z_lstore_n (ls' := [_, _, _, _, _, _, _, _]) hX dX6_mean_18 (Nat.le_of_ble_eq_true rfl) rfl ?_
    refine z_iconst (v := nI 0) hX dX6_mean_19 rfl ?_
    refine z_istore (ls' := [_, _, _, _, _, _, _, _]) hX dX6_mean_20 (Nat.le_of_ble_eq_true rfl) rfl ?_
    exact lp_mean_22 hX hR a b c d mn hd hmn h15 _ (by have := toldF_le (b 16) d mn; omega) ⟨rfl, Or.inr ⟨d, mn, hd, hmn, rfl, h15, rfl⟩⟩ (mn + 1) 0 (by omega) (by omega)
  · -- 1 F
    refine z_if_ne (tgt := 11) hX dX6_mean_4 (by decide) (fun c => absurd c (by decide)) (fun _ => ?_)
    refine z_ldc2 hX dX6_mean_7 k_6_99 ?_
    refine z_lret hX hR dX6_mean_10 ?_
    exact ⟨rfl, Or.inl ⟨hn_d, rfl⟩⟩
def ahF (sh : Nat → Int64) (d i n : Nat) : Nat := zfold (fun j t => t + if nuF sh d i < nuF sh d j ∨ (nuF sh d j = nuF sh d i ∧ j < i) then 1 else 0) n 0
theorem ahF_s (sh : Nat → Int64) (d i n : Nat) : ahF sh d i (n + 1) = ahF sh d i n + if nuF sh d i < nuF sh d n ∨ (nuF sh d n = nuF sh d i ∧ n < i) then 1 else 0 := rfl
theorem ahF_le (sh : Nat → Int64) (d i : Nat) : ∀ n, ahF sh d i n ≤ n
  | 0 => Nat.le_refl 0
  | n + 1 => by
    have := ahF_le sh d i n
    rw [ahF_s]
    split <;> omega
def rkOK (sh : Nat → Int64) (d mn : Nat) (k : Int32) (i : Nat) : Prop := 0 ≤ nuF sh d i ∧ nI (ahF sh d i mn) = k - nI 1
set_option maxHeartbeats 4000000 in
set_option maxRecDepth 100000 in
theorem lp_rank_42 {X : ZX} {post : Option Value → ZW → Prop} (hX : ZOK X 6 cX6_rank 2) (hR : ZRet X (some .long) post) (a : Nat → Nat → Int32) (b : Nat → Nat → Int64) (c : Nat → Int32) (d mn : Nat) (hd : d < 4) (hmn : mn ≤ 100) (h15 : a 15 d = nI mn) (y : Int32) (i : Nat) (hi : i < mn) (K : ZG X 100 [some (.ref 0), some (.int (nI d)), some (.int y), some (.int (nI i)), some (.long (nuF (b 16) d i)), none, some (.int (nI (ahF (b 16) d i mn))), none, none, none] [] (WM a b c)) : ∀ (n k : Nat), k ≤ mn → mn < k + n → ZG X 42 [some (.ref 0), some (.int (nI d)), some (.int y), some (.int (nI i)), some (.long (nuF (b 16) d i)), none, some (.int (nI (ahF (b 16) d i k))), some (.int (nI k)), none, none] [] (WM a b c) := by
  intro n
  induction n with
  | zero => intro k z1 z2; omega
  | succ n ih =>
    intro k hk1 hk2
    refine z_iload hX dX6_rank_42 rfl ?_
    refine z_aload_n hX dX6_rank_44 rfl ?_
    refine z_get hX dX6_rank_45 f_6_54 rfl rfl ?_
    refine z_iload_n hX dX6_rank_48 rfl ?_
    refine z_iald hX dX6_rank_49 rfl (by omega) (by decide) ?_
    refine z_top h15 ?_
    first | with_reducible refine z_icmp_geN (tgt := 100) hX dX6_rank_50 (by decide) (by omega) (by omega) (fun c_50 => ?_) (fun c_50 => ?_) | refine z_icmp_ge (tgt := 100) hX dX6_rank_50 (by decide) (fun c_50 => ?_) (fun c_50 => ?_)
    · -- 50 t
      have zk : k = mn := by omega
      subst zk
      refine z_forget (ls' := [some (.ref 0), some _, some _, some _, some _, none, some _, none, none, none]) ⟨rfl, rfl, rfl, rfl, rfl, rfl, trivial⟩ K
    · -- 50 f
      have ih2 := ih (k + 1) (by omega) (by omega)
      rw [ahF_s] at ih2
      refine z_aload_n hX dX6_rank_53 rfl ?_
      refine z_iload_n hX dX6_rank_54 rfl ?_
      refine z_iload hX dX6_rank_55 rfl ?_
      refine z_callV0 hX dX6_rank_57 mv_6_145 (c_X6_numberAt a b c d k (by omega) (by omega)) (by decide) rfl rfl rfl rfl (Nat.le_of_ble_eq_true rfl) (fun r w1 hp _ => ?_)
      obtain ⟨rfl, rfl⟩ := hp
      refine z_lstore (ls' := [_, _, _, _, _, _, _, _, _, _]) hX dX6_rank_60 (Nat.le_of_ble_eq_true rfl) rfl ?_
      refine z_iload hX dX6_rank_62 rfl ?_
      refine z_lload hX dX6_rank_64 rfl ?_
      refine z_lload hX dX6_rank_66 rfl ?_
      refine z_lcmp hX dX6_rank_68 ?_
      refine z_lif_gt (tgt := 86) hX dX6_rank_69 (by decide) (fun c_69 => ?_) (fun c_69 => ?_)
      · -- 69 t
        refine z_iconst (v := nI 1) hX dX6_rank_86 rfl ?_
        refine z_goto (tgt := 91) hX dX6_rank_87 (by decide) ?_
        first | with_reducible refine z_iaddN hX dX6_rank_91 ?_ | refine z_iadd hX dX6_rank_91 ?_
        refine z_istore (ls' := [_, _, _, _, _, _, _, _, _, _]) hX dX6_rank_92 (Nat.le_of_ble_eq_true rfl) rfl ?_
        first | refine z_iincN (b := 1) (ls' := [_, _, _, _, _, _, _, _, _, _]) hX dX6_rank_94 rfl rfl rfl ?_ | refine z_iinc (ls' := [_, _, _, _, _, _, _, _, _, _]) hX dX6_rank_94 rfl rfl ?_
        refine z_goto (tgt := 42) hX dX6_rank_97 (by decide) ?_
        rw [if_pos (Or.inl c_69)] at ih2
        refine z_forget (ls' := [some (.ref 0), some _, some _, some _, some _, none, some _, some _, none, none]) ⟨rfl, rfl, rfl, rfl, rfl, rfl, rfl, trivial⟩ ih2
      · -- 69 f
        refine z_lload hX dX6_rank_72 rfl ?_
        refine z_lload hX dX6_rank_74 rfl ?_
        refine z_lcmp hX dX6_rank_76 ?_
        refine z_lif_ne (tgt := 90) hX dX6_rank_77 (by decide) (fun c_77 => ?_) (fun c_77 => ?_)
        · -- 77 t
          refine z_iconst (v := nI 0) hX dX6_rank_90 rfl ?_
          first | with_reducible refine z_iaddN hX dX6_rank_91 ?_ | refine z_iadd hX dX6_rank_91 ?_
          refine z_istore (ls' := [_, _, _, _, _, _, _, _, _, _]) hX dX6_rank_92 (Nat.le_of_ble_eq_true rfl) rfl ?_
          first | refine z_iincN (b := 1) (ls' := [_, _, _, _, _, _, _, _, _, _]) hX dX6_rank_94 rfl rfl rfl ?_ | refine z_iinc (ls' := [_, _, _, _, _, _, _, _, _, _]) hX dX6_rank_94 rfl rfl ?_
          refine z_goto (tgt := 42) hX dX6_rank_97 (by decide) ?_
          rw [if_neg (fun q => q.elim (fun q => absurd q (Int64.not_lt.mpr c_69)) (fun q => c_77 q.1))] at ih2
          refine z_forget (ls' := [some (.ref 0), some _, some _, some _, some _, none, some _, some _, none, none]) ⟨rfl, rfl, rfl, rfl, rfl, rfl, rfl, trivial⟩ ih2
        · -- 77 f
          refine z_iload hX dX6_rank_80 rfl ?_
          refine z_iload_n hX dX6_rank_82 rfl ?_
          first | with_reducible refine z_icmp_geN (tgt := 90) hX dX6_rank_83 (by decide) (by omega) (by omega) (fun c_83 => ?_) (fun c_83 => ?_) | refine z_icmp_ge (tgt := 90) hX dX6_rank_83 (by decide) (fun c_83 => ?_) (fun c_83 => ?_)
          · -- 83 t
            refine z_iconst (v := nI 0) hX dX6_rank_90 rfl ?_
            first | with_reducible refine z_iaddN hX dX6_rank_91 ?_ | refine z_iadd hX dX6_rank_91 ?_
            refine z_istore (ls' := [_, _, _, _, _, _, _, _, _, _]) hX dX6_rank_92 (Nat.le_of_ble_eq_true rfl) rfl ?_
            first | refine z_iincN (b := 1) (ls' := [_, _, _, _, _, _, _, _, _, _]) hX dX6_rank_94 rfl rfl rfl ?_ | refine z_iinc (ls' := [_, _, _, _, _, _, _, _, _, _]) hX dX6_rank_94 rfl rfl ?_
            refine z_goto (tgt := 42) hX dX6_rank_97 (by decide) ?_
            rw [if_neg (fun q => q.elim (fun q => absurd q (Int64.not_lt.mpr c_69)) (fun q => by omega))] at ih2
            refine z_forget (ls' := [some (.ref 0), some _, some _, some _, some _, none, some _, some _, none, none]) ⟨rfl, rfl, rfl, rfl, rfl, rfl, rfl, trivial⟩ ih2
          · -- 83 f
            refine z_iconst (v := nI 1) hX dX6_rank_86 rfl ?_
            refine z_goto (tgt := 91) hX dX6_rank_87 (by decide) ?_
            first | with_reducible refine z_iaddN hX dX6_rank_91 ?_ | refine z_iadd hX dX6_rank_91 ?_
            refine z_istore (ls' := [_, _, _, _, _, _, _, _, _, _]) hX dX6_rank_92 (Nat.le_of_ble_eq_true rfl) rfl ?_
            first | refine z_iincN (b := 1) (ls' := [_, _, _, _, _, _, _, _, _, _]) hX dX6_rank_94 rfl rfl rfl ?_ | refine z_iinc (ls' := [_, _, _, _, _, _, _, _, _, _]) hX dX6_rank_94 rfl rfl ?_
            refine z_goto (tgt := 42) hX dX6_rank_97 (by decide) ?_
            rw [if_pos (Or.inr ⟨c_77, c_83⟩)] at ih2
            refine z_forget (ls' := [some (.ref 0), some _, some _, some _, some _, none, some _, some _, none, none]) ⟨rfl, rfl, rfl, rfl, rfl, rfl, rfl, trivial⟩ ih2
set_option maxHeartbeats 4000000 in
set_option maxRecDepth 100000 in
theorem lp_rank_18 {X : ZX} {post : Option Value → ZW → Prop} (hX : ZOK X 6 cX6_rank 2) (hR : ZRet X (some .long) post) (a : Nat → Nat → Int32) (b : Nat → Nat → Int64) (c : Nat → Int32) (d mn : Nat) (hd : d < 4) (hmn : mn ≤ 100) (h15 : a 15 d = nI mn) (y : Int32) (hpost1 : ∀ i, i < mn → rkOK (b 16) d mn y i → (∀ j, j < i → ¬ rkOK (b 16) d mn y j) → post (some (.long (nuF (b 16) d i))) (WM a b c)) (hpost2 : (∀ j, j < mn → ¬ rkOK (b 16) d mn y j) → post (some (.long (-4))) (WM a b c)) : ∀ (n i : Nat), i ≤ mn → mn < i + n → (∀ j, j < i → ¬ rkOK (b 16) d mn y j) → ZG X 18 [some (.ref 0), some (.int (nI d)), some (.int y), some (.int (nI i)), none, none, none, none, none, none] [] (WM a b c) := by
  intro n
  induction n with
  | zero => intro i z1 z2; omega
  | succ n ih =>
    intro i hi1 hi2 hno
    refine z_iload_n hX dX6_rank_18 rfl ?_
    refine z_aload_n hX dX6_rank_19 rfl ?_
    refine z_get hX dX6_rank_20 f_6_54 rfl rfl ?_
    refine z_iload_n hX dX6_rank_23 rfl ?_
    refine z_iald hX dX6_rank_24 rfl (by omega) (by decide) ?_
    refine z_top h15 ?_
    first | with_reducible refine z_icmp_geN (tgt := 124) hX dX6_rank_25 (by decide) (by omega) (by omega) (fun c_25 => ?_) (fun c_25 => ?_) | refine z_icmp_ge (tgt := 124) hX dX6_rank_25 (by decide) (fun c_25 => ?_) (fun c_25 => ?_)
    · -- 25 t
      have zi : i = mn := by omega
      subst zi
      refine z_ldc2 hX dX6_rank_124 k_6_149 ?_
      refine z_lret hX hR dX6_rank_127 ?_
      exact hpost2 hno
    · -- 25 f
      refine z_aload_n hX dX6_rank_28 rfl ?_
      refine z_iload_n hX dX6_rank_29 rfl ?_
      refine z_iload_n hX dX6_rank_30 rfl ?_
      refine z_callV0 hX dX6_rank_31 mv_6_145 (c_X6_numberAt a b c d i (by omega) (by omega)) (by decide) rfl rfl rfl rfl (Nat.le_of_ble_eq_true rfl) (fun r w1 hp _ => ?_)
      obtain ⟨rfl, rfl⟩ := hp
      refine z_lstore (ls' := [_, _, _, _, _, _, _, _, _, _]) hX dX6_rank_34 (Nat.le_of_ble_eq_true rfl) rfl ?_
      refine z_iconst (v := nI 0) hX dX6_rank_36 rfl ?_
      refine z_istore (ls' := [_, _, _, _, _, _, _, _, _, _]) hX dX6_rank_37 (Nat.le_of_ble_eq_true rfl) rfl ?_
      refine z_iconst (v := nI 0) hX dX6_rank_39 rfl ?_
      refine z_istore (ls' := [_, _, _, _, _, _, _, _, _, _]) hX dX6_rank_40 (Nat.le_of_ble_eq_true rfl) rfl ?_
      refine lp_rank_42 hX hR a b c d mn hd hmn h15 y i c_25 ?_ (mn + 1) 0 (by omega) (by omega)
      refine z_lload hX dX6_rank_100 rfl ?_
      refine z_lconst (v := 0) hX dX6_rank_102 rfl ?_
      refine z_lcmp hX dX6_rank_103 ?_
      refine z_lif_lt (tgt := 118) hX dX6_rank_104 (by decide) (fun c_104 => ?_) (fun c_104 => ?_)
      · -- 104 t
        first | refine z_iincN (b := 1) (ls' := [_, _, _, _, _, _, _, _, _, _]) hX dX6_rank_118 rfl rfl rfl ?_ | refine z_iinc (ls' := [_, _, _, _, _, _, _, _, _, _]) hX dX6_rank_118 rfl rfl ?_
        refine z_goto (tgt := 18) hX dX6_rank_121 (by decide) ?_
        refine z_forget (ls' := [some (.ref 0), some _, some _, some _, none, none, none, none, none, none]) ⟨rfl, rfl, rfl, rfl, trivial⟩ (ih (i + 1) (by omega) (by omega) (fun j hj => ?_))
        rcases (show j < i ∨ j = i by omega) with e | e
        · exact hno j e
        · rw [e]
          exact fun q => absurd q.1 (Int64.not_le.mpr c_104)
      · -- 104 f
        refine z_iload hX dX6_rank_107 rfl ?_
        refine z_iload_n hX dX6_rank_109 rfl ?_
        refine z_iconst (v := nI 1) hX dX6_rank_110 rfl ?_
        refine z_isub hX dX6_rank_111 ?_
        refine z_icmp_ne (tgt := 118) hX dX6_rank_112 (by decide) (fun c_112 => ?_) (fun c_112 => ?_)
        · -- 112 t
          first | refine z_iincN (b := 1) (ls' := [_, _, _, _, _, _, _, _, _, _]) hX dX6_rank_118 rfl rfl rfl ?_ | refine z_iinc (ls' := [_, _, _, _, _, _, _, _, _, _]) hX dX6_rank_118 rfl rfl ?_
          refine z_goto (tgt := 18) hX dX6_rank_121 (by decide) ?_
          refine z_forget (ls' := [some (.ref 0), some _, some _, some _, none, none, none, none, none, none]) ⟨rfl, rfl, rfl, rfl, trivial⟩ (ih (i + 1) (by omega) (by omega) (fun j hj => ?_))
          rcases (show j < i ∨ j = i by omega) with e | e
          · exact hno j e
          · rw [e]
            exact fun q => c_112 q.2
        · -- 112 f
          refine z_lload hX dX6_rank_115 rfl ?_
          refine z_lret hX hR dX6_rank_117 ?_
          exact hpost1 i c_25 ⟨c_104, c_112⟩ hno
set_option maxHeartbeats 4000000 in
set_option maxRecDepth 100000 in
theorem c_X6_rank (a : Nat → Nat → Int32) (b : Nat → Nat → Int64) (c : Nat → Int32) (hok : okM (a 15)) (x y : Int32) : ∀ l, ZC l yX6_rank cX6_rank 10 (some .long) 2 [.ref 0, .int x, .int y] (WM a b c) (fun r w' => w' = WM a b c ∧ ((¬ (zJ x 4 ∧ nI 1 ≤ y) ∧ r = some (.long (-1))) ∨ ∃ d mn, d < 4 ∧ mn ≤ 100 ∧ x = nI d ∧ nI 1 ≤ y ∧ a 15 d = nI mn ∧ (((∀ j, j < mn → ¬ rkOK (b 16) d mn y j) ∧ r = some (.long (-4))) ∨ ∃ i, i < mn ∧ rkOK (b 16) d mn y i ∧ r = some (.long (nuF (b 16) d i))))) := by
  intro l
  refine zc_intro (oc := 6) (by decide +kernel) rfl (Nat.le_of_ble_eq_true rfl) ?_
  intro X hX hR
  refine z_norm (ls' := [_, _, _, _, _, _, _, _, _, _]) rfl rfl rfl ?_
  refine z_iload_n hX dX6_rank_0 rfl ?_
  refine z_callS0 hX dX6_rank_1 ms_6_131 (c_X6_isDoor _ _) (by decide) rfl rfl (Nat.le_of_ble_eq_true rfl) (fun r w1 hp _ => ?_)
  obtain ⟨rfl, ⟨⟨d, hd, rfl⟩, rfl⟩ | ⟨hn_d, rfl⟩⟩ := hp
  · -- 1 T
    obtain ⟨mn, hmn, h15⟩ := hok d hd
    refine z_if_eq (tgt := 12) hX dX6_rank_4 (by decide) (fun c => absurd c (by decide)) (fun _ => ?_)
    refine z_iload_n hX dX6_rank_7 rfl ?_
    refine z_iconst (v := nI 1) hX dX6_rank_8 rfl ?_
    first | with_reducible refine z_icmp_geN (tgt := 16) hX dX6_rank_9 (by decide) (by omega) (by omega) (fun c_9 => ?_) (fun c_9 => ?_) | refine z_icmp_ge (tgt := 16) hX dX6_rank_9 (by decide) (fun c_9 => ?_) (fun c_9 => ?_)
    · -- 9 t
      refine z_iconst (v := nI 0) hX dX6_rank_16 rfl ?_
      refine z_istore_n (ls' := [_, _, _, _, _, _, _, _, _, _]) hX dX6_rank_17 (Nat.le_of_ble_eq_true rfl) rfl ?_
      exact lp_rank_18 hX hR a b c d mn hd hmn h15 y (fun i h1 h2 _ => ⟨rfl, Or.inr ⟨d, mn, hd, hmn, rfl, c_9, h15, Or.inr ⟨i, h1, h2, rfl⟩⟩⟩) (fun h1 => ⟨rfl, Or.inr ⟨d, mn, hd, hmn, rfl, c_9, h15, Or.inl ⟨h1, rfl⟩⟩⟩) (mn + 1) 0 (by omega) (by omega) (fun j hj => by omega)
    · -- 9 f
      refine z_ldc2 hX dX6_rank_12 k_6_99 ?_
      refine z_lret hX hR dX6_rank_15 ?_
      exact ⟨rfl, Or.inl ⟨fun q => c_9 q.2, rfl⟩⟩
  · -- 1 F
    refine z_if_eq (tgt := 12) hX dX6_rank_4 (by decide) (fun _ => ?_) (fun c => absurd c (by decide))
    refine z_ldc2 hX dX6_rank_12 k_6_99 ?_
    refine z_lret hX hR dX6_rank_15 ?_
    exact ⟨rfl, Or.inl ⟨fun q => hn_d q.1, rfl⟩⟩
def watF (a14 : Nat → Int32) (n : Nat) : Nat := zfold (fun k t => t + if a14 k = 0 then 0 else 1) n 0
theorem watF_s (a14 : Nat → Int32) (n : Nat) : watF a14 (n + 1) = watF a14 n + if a14 n = 0 then 0 else 1 := rfl
theorem watF_le (a14 : Nat → Int32) : ∀ n, watF a14 n ≤ n
  | 0 => Nat.le_refl 0
  | n + 1 => by
    have := watF_le a14 n
    rw [watF_s]
    split <;> omega
set_option maxHeartbeats 4000000 in
set_option maxRecDepth 100000 in
theorem lp_watch_21 {X : ZX} {post : Option Value → ZW → Prop} (hX : ZOK X 6 cX6_watch 2) (hR : ZRet X (some .int) post) (a : Nat → Nat → Int32) (b : Nat → Nat → Int64) (c : Nat → Int32) (x y : Int32) (hpost : post (some (.int (nI (watF (a 14) 4)))) (WM a b c)) : ∀ (n k : Nat), k ≤ 4 → 4 < k + n → ZG X 21 [some (.ref 0), some (.int x), some (.int y), some (.int (nI (watF (a 14) k))), some (.int (nI k))] [] (WM a b c) := by
  intro n
  induction n with
  | zero => intro k z1 z2; omega
  | succ n ih =>
    intro k hk1 hk2
    refine z_iload hX dX6_watch_21 rfl ?_
    refine z_iconst (v := nI 4) hX dX6_watch_23 rfl ?_
    first | with_reducible refine z_icmp_geN (tgt := 51) hX dX6_watch_24 (by decide) (by omega) (by omega) (fun c_24 => ?_) (fun c_24 => ?_) | refine z_icmp_ge (tgt := 51) hX dX6_watch_24 (by decide) (fun c_24 => ?_) (fun c_24 => ?_)
    · -- 24 t
      have zk : k = 4 := by omega
      subst zk
      refine z_iload_n hX dX6_watch_51 rfl ?_
      refine z_iret hX hR dX6_watch_52 ?_
      exact hpost
    · -- 24 f
      have ih2 := ih (k + 1) (by omega) (by omega)
      rw [watF_s] at ih2
      refine z_iload_n hX dX6_watch_27 rfl ?_
      refine z_aload_n hX dX6_watch_28 rfl ?_
      refine z_get hX dX6_watch_29 f_6_51 rfl rfl ?_
      refine z_iload hX dX6_watch_32 rfl ?_
      refine z_zald hX dX6_watch_34 rfl (by omega) (by decide) ?_
      refine z_if_eq (tgt := 42) hX dX6_watch_35 (by decide) (fun c_35 => ?_) (fun c_35 => ?_)
      · -- 35 t
        refine z_iconst (v := nI 0) hX dX6_watch_42 rfl ?_
        first | with_reducible refine z_iaddN hX dX6_watch_43 ?_ | refine z_iadd hX dX6_watch_43 ?_
        refine z_istore_n (ls' := [_, _, _, _, _]) hX dX6_watch_44 (Nat.le_of_ble_eq_true rfl) rfl ?_
        first | refine z_iincN (b := 1) (ls' := [_, _, _, _, _]) hX dX6_watch_45 rfl rfl rfl ?_ | refine z_iinc (ls' := [_, _, _, _, _]) hX dX6_watch_45 rfl rfl ?_
        refine z_goto (tgt := 21) hX dX6_watch_48 (by decide) ?_
        rw [if_pos c_35] at ih2
        exact ih2
      · -- 35 f
        refine z_iconst (v := nI 1) hX dX6_watch_38 rfl ?_
        refine z_goto (tgt := 43) hX dX6_watch_39 (by decide) ?_
        first | with_reducible refine z_iaddN hX dX6_watch_43 ?_ | refine z_iadd hX dX6_watch_43 ?_
        refine z_istore_n (ls' := [_, _, _, _, _]) hX dX6_watch_44 (Nat.le_of_ble_eq_true rfl) rfl ?_
        first | refine z_iincN (b := 1) (ls' := [_, _, _, _, _]) hX dX6_watch_45 rfl rfl rfl ?_ | refine z_iinc (ls' := [_, _, _, _, _]) hX dX6_watch_45 rfl rfl ?_
        refine z_goto (tgt := 21) hX dX6_watch_48 (by decide) ?_
        rw [if_neg c_35] at ih2
        exact ih2
set_option maxHeartbeats 4000000 in
set_option maxRecDepth 100000 in
theorem c_X6_watch (a : Nat → Nat → Int32) (b : Nat → Nat → Int64) (c : Nat → Int32) (x y : Int32) (hy : y = 0 ∨ y = 1) : ∀ l, ZC l yX6_watch cX6_watch 5 (some .int) 2 [.ref 0, .int x, .int y] (WM a b c) (fun r w' => (¬ zJ x 4 ∧ r = some (.int (-1)) ∧ w' = WM a b c) ∨ ∃ d, d < 4 ∧ x = nI d ∧ r = some (.int (nI (watF (upd (a 14) d y) 4))) ∧ w' = WM (va_up a 14 (upd (a 14) d y)) b c) := by
  intro l
  refine zc_intro (oc := 6) (by decide +kernel) rfl (Nat.le_of_ble_eq_true rfl) ?_
  intro X hX hR
  refine z_norm (ls' := [_, _, _, _, _]) rfl rfl rfl ?_
  refine z_iload_n hX dX6_watch_0 rfl ?_
  refine z_callS0 hX dX6_watch_1 ms_6_131 (c_X6_isDoor _ _) (by decide) rfl rfl (Nat.le_of_ble_eq_true rfl) (fun r w1 hp _ => ?_)
  obtain ⟨rfl, ⟨⟨d, hd, rfl⟩, rfl⟩ | ⟨hn_d, rfl⟩⟩ := hp
  · -- 1 T
    refine z_if_ne (tgt := 9) hX dX6_watch_4 (by decide) (fun _ => ?_) (fun c => absurd c (by decide))
    refine z_aload_n hX dX6_watch_9 rfl ?_
    refine z_get hX dX6_watch_10 f_6_51 rfl rfl ?_
    refine z_iload_n hX dX6_watch_13 rfl ?_
    refine z_iload_n hX dX6_watch_14 rfl ?_
    refine z_zast (w' := [_, _, _, _, _, _, _, _, _, _, _, _, _, _, _, _, _, _, _, _]) hX dX6_watch_15 rfl (by omega) (by decide) (by first | exact Or.inl rfl | exact Or.inr rfl | assumption) rfl ?_
    refine z_iconst (v := nI 0) hX dX6_watch_16 rfl ?_
    refine z_istore_n (ls' := [_, _, _, _, _]) hX dX6_watch_17 (Nat.le_of_ble_eq_true rfl) rfl ?_
    refine z_iconst (v := nI 0) hX dX6_watch_18 rfl ?_
    refine z_istore (ls' := [_, _, _, _, _]) hX dX6_watch_19 (Nat.le_of_ble_eq_true rfl) rfl ?_
    exact lp_watch_21 hX hR (va_up a 14 (upd (a 14) d y)) b c _ y (Or.inr ⟨d, hd, rfl, rfl, rfl⟩) 5 0 (by omega) (by omega)
  · -- 1 F
    refine z_if_ne (tgt := 9) hX dX6_watch_4 (by decide) (fun c => absurd c (by decide)) (fun _ => ?_)
    refine z_iconst (v := -1) hX dX6_watch_7 rfl ?_
    refine z_iret hX hR dX6_watch_8 ?_
    exact Or.inl ⟨hn_d, rfl, rfl⟩
set_option maxHeartbeats 4000000 in
set_option maxRecDepth 100000 in
theorem c_X6_hour (a : Nat → Nat → Int32) (b : Nat → Nat → Int64) (c : Nat → Int32) (hok : okM (a 15)) (x y z : Int32) : ∀ l, ZC l yX6_hour cX6_hour 7 (some .long) 2 [.ref 0, .int x, .int y, .int z] (WM a b c) (fun r w' => w' = WM a b c ∧ ((¬ zJ x 4 ∧ r = some (.long (-1))) ∨ ∃ d mn, d < 4 ∧ mn ≤ 100 ∧ x = nI d ∧ a 15 d = nI mn ∧ ((¬ (zJ y mn ∧ zJ z 4) ∧ r = some (.long (-1))) ∨ ∃ j f, j < mn ∧ f < 4 ∧ y = nI j ∧ z = nI f ∧ r = some (.long (if 0 ≤ nuF (b 16) d (mn - 1 - j) then (if f = 3 then nuF (b 16) d (mn - 1 - j) else b 16 (300 * d + 3 * (mn - 1 - j) + f)) else -4))))) := by
  intro l
  refine zc_intro (oc := 6) (by decide +kernel) rfl (Nat.le_of_ble_eq_true rfl) ?_
  intro X hX hR
  refine z_norm (ls' := [_, _, _, _, _, _, _]) rfl rfl rfl ?_
  refine z_iload_n hX dX6_hour_0 rfl ?_
  refine z_callS0 hX dX6_hour_1 ms_6_131 (c_X6_isDoor _ _) (by decide) rfl rfl (Nat.le_of_ble_eq_true rfl) (fun r w1 hp _ => ?_)
  obtain ⟨rfl, ⟨⟨d, hd, rfl⟩, rfl⟩ | ⟨hn_d, rfl⟩⟩ := hp
  · -- 1 T
    obtain ⟨mn, hmn, h15⟩ := hok d hd
    refine z_if_eq (tgt := 37) hX dX6_hour_4 (by decide) (fun c => absurd c (by decide)) (fun _ => ?_)
    refine z_iload_n hX dX6_hour_7 rfl ?_
    first | with_reducible refine z_i2lN hX dX6_hour_8 (by omega) ?_ | refine z_i2l hX dX6_hour_8 ?_
    refine z_lconst (v := 0) hX dX6_hour_9 rfl ?_
    refine z_aload_n hX dX6_hour_10 rfl ?_
    refine z_get hX dX6_hour_11 f_6_54 rfl rfl ?_
    refine z_iload_n hX dX6_hour_14 rfl ?_
    refine z_iald hX dX6_hour_15 rfl (by omega) (by decide) ?_
    refine z_top h15 ?_
    refine z_iconst (v := nI 1) hX dX6_hour_16 rfl ?_
    refine z_isub hX dX6_hour_17 ?_
    refine z_i2l hX dX6_hour_18 ?_
    refine z_callS0 hX dX6_hour_19 ms_6_71 (c_X6_in _ _ _ _) (by decide) rfl rfl (Nat.le_of_ble_eq_true rfl) (fun r w1 hp _ => ?_)
    obtain ⟨rfl, hp⟩ := hp
    rcases zinS2 hmn hp with ⟨⟨j, hj, rfl⟩, rfl⟩ | ⟨hn_j, rfl⟩
    · -- 19 T
      refine z_if_eq (tgt := 37) hX dX6_hour_22 (by decide) (fun c => absurd c (by decide)) (fun _ => ?_)
      refine z_iload_n hX dX6_hour_25 rfl ?_
      first | with_reducible refine z_i2lN hX dX6_hour_26 (by omega) ?_ | refine z_i2l hX dX6_hour_26 ?_
      refine z_lconst (v := 0) hX dX6_hour_27 rfl ?_
      refine z_ldc2 hX dX6_hour_28 k_6_112 ?_
      refine z_callS0 hX dX6_hour_31 ms_6_71 (c_X6_in _ _ _ _) (by decide) rfl rfl (Nat.le_of_ble_eq_true rfl) (fun r w1 hp _ => ?_)
      obtain ⟨rfl, hp⟩ := hp
      rcases zinJ (n := 4) rfl (by decide) hp with ⟨⟨f, hf, rfl⟩, rfl⟩ | ⟨hn_f, rfl⟩
      · -- 31 T
        refine z_if_ne (tgt := 41) hX dX6_hour_34 (by decide) (fun _ => ?_) (fun c => absurd c (by decide))
        refine z_aload_n hX dX6_hour_41 rfl ?_
        refine z_get hX dX6_hour_42 f_6_54 rfl rfl ?_
        refine z_iload_n hX dX6_hour_45 rfl ?_
        refine z_iald hX dX6_hour_46 rfl (by omega) (by decide) ?_
        refine z_top h15 ?_
        refine z_iconst (v := nI 1) hX dX6_hour_47 rfl ?_
        first | with_reducible refine z_isubN hX dX6_hour_48 (by omega) ?_ | refine z_isub hX dX6_hour_48 ?_
        refine z_iload_n hX dX6_hour_49 rfl ?_
        first | with_reducible refine z_isubN hX dX6_hour_50 (by omega) ?_ | refine z_isub hX dX6_hour_50 ?_
        refine z_istore (ls' := [_, _, _, _, _, _, _]) hX dX6_hour_51 (Nat.le_of_ble_eq_true rfl) rfl ?_
        refine z_aload_n hX dX6_hour_53 rfl ?_
        refine z_iload_n hX dX6_hour_54 rfl ?_
        refine z_iload hX dX6_hour_55 rfl ?_
        refine z_callV0 hX dX6_hour_57 mv_6_145 (c_X6_numberAt a b c d (mn - 1 - j) (by omega) (by omega)) (by decide) rfl rfl rfl rfl (Nat.le_of_ble_eq_true rfl) (fun r w1 hp _ => ?_)
        obtain ⟨rfl, rfl⟩ := hp
        refine z_lstore (ls' := [_, _, _, _, _, _, _]) hX dX6_hour_60 (Nat.le_of_ble_eq_true rfl) rfl ?_
        refine z_lload hX dX6_hour_62 rfl ?_
        refine z_lconst (v := 0) hX dX6_hour_64 rfl ?_
        refine z_lcmp hX dX6_hour_65 ?_
        refine z_lif_ge (tgt := 75) hX dX6_hour_66 (by decide) (fun c_66 => ?_) (fun c_66 => ?_)
        · -- 66 t
          refine z_iload_n hX dX6_hour_75 rfl ?_
          refine z_iconst (v := nI 3) hX dX6_hour_76 rfl ?_
          first | with_reducible refine z_icmp_neN (tgt := 85) hX dX6_hour_77 (by decide) (by omega) (by omega) (fun c_77 => ?_) (fun c_77 => ?_) | refine z_icmp_ne (tgt := 85) hX dX6_hour_77 (by decide) (fun c_77 => ?_) (fun c_77 => ?_)
          · -- 77 t
            refine z_aload_n hX dX6_hour_85 rfl ?_
            refine z_get hX dX6_hour_86 f_6_57 rfl rfl ?_
            refine z_sipush (v := nI 300) hX dX6_hour_89 rfl ?_
            refine z_iload_n hX dX6_hour_92 rfl ?_
            first | with_reducible refine z_imulN hX dX6_hour_93 ?_ | refine z_imul hX dX6_hour_93 ?_
            refine z_iconst (v := nI 3) hX dX6_hour_94 rfl ?_
            refine z_iload hX dX6_hour_95 rfl ?_
            first | with_reducible refine z_imulN hX dX6_hour_97 ?_ | refine z_imul hX dX6_hour_97 ?_
            first | with_reducible refine z_iaddN hX dX6_hour_98 ?_ | refine z_iadd hX dX6_hour_98 ?_
            refine z_iload_n hX dX6_hour_99 rfl ?_
            first | with_reducible refine z_iaddN hX dX6_hour_100 ?_ | refine z_iadd hX dX6_hour_100 ?_
            refine z_lald hX dX6_hour_101 rfl (by omega) (by decide) ?_
            refine z_lret hX hR dX6_hour_102 ?_
            exact ⟨rfl, Or.inr ⟨d, mn, hd, hmn, rfl, h15, Or.inr ⟨j, f, hj, hf, rfl, rfl, by rw [if_pos c_66, if_neg c_77]⟩⟩⟩
          · -- 77 f
            refine z_lload hX dX6_hour_80 rfl ?_
            refine z_goto (tgt := 102) hX dX6_hour_82 (by decide) ?_
            refine z_lret hX hR dX6_hour_102 ?_
            exact ⟨rfl, Or.inr ⟨d, mn, hd, hmn, rfl, h15, Or.inr ⟨j, f, hj, hf, rfl, rfl, by rw [if_pos c_66, if_pos c_77]⟩⟩⟩
        · -- 66 f
          refine z_ldc2 hX dX6_hour_69 k_6_149 ?_
          refine z_goto (tgt := 102) hX dX6_hour_72 (by decide) ?_
          refine z_lret hX hR dX6_hour_102 ?_
          exact ⟨rfl, Or.inr ⟨d, mn, hd, hmn, rfl, h15, Or.inr ⟨j, f, hj, hf, rfl, rfl, by rw [if_neg (Int64.not_le.mpr c_66)]⟩⟩⟩
      · -- 31 F
        refine z_if_ne (tgt := 41) hX dX6_hour_34 (by decide) (fun c => absurd c (by decide)) (fun _ => ?_)
        refine z_ldc2 hX dX6_hour_37 k_6_99 ?_
        refine z_lret hX hR dX6_hour_40 ?_
        exact ⟨rfl, Or.inr ⟨d, mn, hd, hmn, rfl, h15, Or.inl ⟨fun q => hn_f q.2, rfl⟩⟩⟩
    · -- 19 F
      refine z_if_eq (tgt := 37) hX dX6_hour_22 (by decide) (fun _ => ?_) (fun c => absurd c (by decide))
      refine z_ldc2 hX dX6_hour_37 k_6_99 ?_
      refine z_lret hX hR dX6_hour_40 ?_
      exact ⟨rfl, Or.inr ⟨d, mn, hd, hmn, rfl, h15, Or.inl ⟨fun q => hn_j q.1, rfl⟩⟩⟩
  · -- 1 F
    refine z_if_eq (tgt := 37) hX dX6_hour_4 (by decide) (fun _ => ?_) (fun c => absurd c (by decide))
    refine z_ldc2 hX dX6_hour_37 k_6_99 ?_
    refine z_lret hX hR dX6_hour_40 ?_
    exact ⟨rfl, Or.inl ⟨hn_d, rfl⟩⟩
