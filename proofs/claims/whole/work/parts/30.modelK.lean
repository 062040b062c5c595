/-! ===== the reference: rolling means, the law, the cheapest cuts ===== -/
def cnF (sh : Nat → Int64) (d f n : Nat) : Nat := zfold (fun k t => t + if 0 ≤ nuF sh d (f + k) then 1 else 0) n 0
theorem cnF_s (sh : Nat → Int64) (d f n : Nat) : cnF sh d f (n + 1) = cnF sh d f n + if 0 ≤ nuF sh d (f + n) then 1 else 0 := rfl
theorem cnF_le (sh : Nat → Int64) (d f : Nat) : ∀ n, cnF sh d f n ≤ n
  | 0 => Nat.le_refl 0
  | n + 1 => by
    have := cnF_le sh d f n
    rw [cnF_s]
    split <;> omega
def wsF (sh : Nat → Int64) (d f n : Nat) : Int64 := zfold (fun k t => t + if 0 ≤ nuF sh d (f + k) then nuF sh d (f + k) else 0) n 0
theorem wsF_s (sh : Nat → Int64) (d f n : Nat) : wsF sh d f (n + 1) = wsF sh d f n + if 0 ≤ nuF sh d (f + n) then nuF sh d (f + n) else 0 := rfl
def rlT (sh : Nat → Int64) (d wn f : Nat) (bs : Int64) : Int64 := if wn ≤ 2 * cnF sh d f wn ∧ bs < wsF sh d f wn / lN (cnF sh d f wn) then wsF sh d f wn / lN (cnF sh d f wn) else bs
def rlF (sh : Nat → Int64) (d wn n : Nat) : Int64 := zfold (rlT sh d wn) n (-4)
theorem rlF_s (sh : Nat → Int64) (d wn n : Nat) : rlF sh d wn (n + 1) = rlT sh d wn n (rlF sh d wn n) := rfl
set_option maxHeartbeats 4000000 in
set_option maxRecDepth 100000 in
theorem lp_roll_53 {X : ZX} {post : Option Value → ZW → Prop} (hX : ZOK X 6 cX6_rolling 2) (hR : ZRet X (some .long) post) (a : Nat → Nat → Int32) (b : Nat → Nat → Int64) (c : Nat → Int32) (d mn : Nat) (hd : d < 4) (hmn : mn ≤ 100) (h15 : a 15 d = nI mn) (wn f : Nat) (hwn : wn ≤ 24) (hf : f + wn ≤ mn) (bs : Int64) (K : ZG X 112 [some (.ref 0), some (.int (nI d)), some (.int (nI wn)), some (.long bs), none, some (.int (nI f)), some (.int (nI (cnF (b 16) d f wn))), some (.long (wsF (b 16) d f wn)), none, none, none, none] [] (WM a b c)) : ∀ (n k : Nat), k ≤ wn → wn < k + n → ZG X 53 [some (.ref 0), some (.int (nI d)), some (.int (nI wn)), some (.long bs), none, some (.int (nI f)), some (.int (nI (cnF (b 16) d f k))), some (.long (wsF (b 16) d f k)), none, some (.int (nI (f + k))), none, none] [] (WM a b c) := by
  intro n
  induction n with
  | zero => intro k z1 z2; omega
  | succ n ih =>
    intro k hk1 hk2
    refine z_iload hX dX6_rolling_53 rfl ?_
    refine z_iload hX dX6_rolling_55 rfl ?_
    refine z_iload_n hX dX6_rolling_57 rfl ?_
    first | with_reducible refine z_iaddN hX dX6_rolling_58 ?_ | refine z_iadd hX dX6_rolling_58 ?_
    first | with_reducible refine z_icmp_geN (tgt := 112) hX dX6_rolling_59 (by decide) (by omega) (by omega) (fun c_59 => ?_) (fun c_59 => ?_) | refine z_icmp_ge (tgt := 112) hX dX6_rolling_59 (by decide) (fun c_59 => ?_) (fun c_59 => ?_)
    · -- 59 t
      have zk : k = wn := by omega
      subst zk
      refine z_forget (ls' := [some (.ref 0), some _, some _, some _, none, some _, some _, some _, none, none, none, none]) ⟨rfl, rfl, rfl, rfl, rfl, rfl, rfl, trivial⟩ K
    · -- 59 f
      have ih2 := ih (k + 1) (by omega) (by omega)
      rw [cnF_s, wsF_s] at ih2
      refine z_aload_n hX dX6_rolling_62 rfl ?_
      refine z_iload_n hX dX6_rolling_63 rfl ?_
      refine z_iload hX dX6_rolling_64 rfl ?_
      refine z_callV0 hX dX6_rolling_66 mv_6_145 (c_X6_numberAt a b c d (f + k) (by omega) (by omega)) (by decide) rfl rfl rfl rfl (Nat.le_of_ble_eq_true rfl) (fun r w1 hp _ => ?_)
      obtain ⟨rfl, rfl⟩ := hp
      refine z_lstore (ls' := [_, _, _, _, _, _, _, _, _, _, _, _]) hX dX6_rolling_69 (Nat.le_of_ble_eq_true rfl) rfl ?_
      refine z_iload hX dX6_rolling_71 rfl ?_
      refine z_lload hX dX6_rolling_73 rfl ?_
      refine z_lconst (v := 0) hX dX6_rolling_75 rfl ?_
      refine z_lcmp hX dX6_rolling_76 ?_
      refine z_lif_ge (tgt := 84) hX dX6_rolling_77 (by decide) (fun c_77 => ?_) (fun c_77 => ?_)
      · -- 77 t
        rw [if_pos c_77, if_pos c_77] at ih2
        refine z_iconst (v := nI 1) hX dX6_rolling_84 rfl ?_
        first | with_reducible refine z_iaddN hX dX6_rolling_85 ?_ | refine z_iadd hX dX6_rolling_85 ?_
        refine z_istore (ls' := [_, _, _, _, _, _, _, _, _, _, _, _]) hX dX6_rolling_86 (Nat.le_of_ble_eq_true rfl) rfl ?_
        refine z_lload hX dX6_rolling_88 rfl ?_
        refine z_lload hX dX6_rolling_90 rfl ?_
        refine z_lconst (v := 0) hX dX6_rolling_92 rfl ?_
        refine z_lcmp hX dX6_rolling_93 ?_
        refine z_lif_ge (tgt := 101) hX dX6_rolling_94 (by decide) (fun c_94 => ?_) (fun c_94 => ?_)
        · -- 94 t
          have := c_94
          refine z_lload hX dX6_rolling_101 rfl ?_
          refine z_ladd hX dX6_rolling_103 ?_
          refine z_lstore (ls' := [_, _, _, _, _, _, _, _, _, _, _, _]) hX dX6_rolling_104 (Nat.le_of_ble_eq_true rfl) rfl ?_
          first | refine z_iincN (b := 1) (ls' := [_, _, _, _, _, _, _, _, _, _, _, _]) hX dX6_rolling_106 rfl rfl rfl ?_ | refine z_iinc (ls' := [_, _, _, _, _, _, _, _, _, _, _, _]) hX dX6_rolling_106 rfl rfl ?_
          refine z_goto (tgt := 53) hX dX6_rolling_109 (by decide) ?_
          refine z_forget (ls' := [some (.ref 0), some _, some _, some _, none, some _, some _, some _, none, some _, none, none]) ⟨rfl, rfl, rfl, rfl, rfl, rfl, rfl, rfl, trivial⟩ ih2
        · -- 94 f
          have := c_94
          refine z_lconst (v := 0) hX dX6_rolling_97 rfl ?_
          refine z_goto (tgt := 103) hX dX6_rolling_98 (by decide) ?_
          refine z_ladd hX dX6_rolling_103 ?_
          refine z_lstore (ls' := [_, _, _, _, _, _, _, _, _, _, _, _]) hX dX6_rolling_104 (Nat.le_of_ble_eq_true rfl) rfl ?_
          first | refine z_iincN (b := 1) (ls' := [_, _, _, _, _, _, _, _, _, _, _, _]) hX dX6_rolling_106 rfl rfl rfl ?_ | refine z_iinc (ls' := [_, _, _, _, _, _, _, _, _, _, _, _]) hX dX6_rolling_106 rfl rfl ?_
          refine z_goto (tgt := 53) hX dX6_rolling_109 (by decide) ?_
          exact absurd c_94 (Int64.not_lt.mpr c_77)
      · -- 77 f
        rw [if_neg (Int64.not_le.mpr c_77), if_neg (Int64.not_le.mpr c_77)] at ih2
        refine z_iconst (v := nI 0) hX dX6_rolling_80 rfl ?_
        refine z_goto (tgt := 85) hX dX6_rolling_81 (by decide) ?_
        first | with_reducible refine z_iaddN hX dX6_rolling_85 ?_ | refine z_iadd hX dX6_rolling_85 ?_
        refine z_istore (ls' := [_, _, _, _, _, _, _, _, _, _, _, _]) hX dX6_rolling_86 (Nat.le_of_ble_eq_true rfl) rfl ?_
        refine z_lload hX dX6_rolling_88 rfl ?_
        refine z_lload hX dX6_rolling_90 rfl ?_
        refine z_lconst (v := 0) hX dX6_rolling_92 rfl ?_
        refine z_lcmp hX dX6_rolling_93 ?_
        refine z_lif_ge (tgt := 101) hX dX6_rolling_94 (by decide) (fun c_94 => ?_) (fun c_94 => ?_)
        · -- 94 t
          have := c_94
          refine z_lload hX dX6_rolling_101 rfl ?_
          refine z_ladd hX dX6_rolling_103 ?_
          refine z_lstore (ls' := [_, _, _, _, _, _, _, _, _, _, _, _]) hX dX6_rolling_104 (Nat.le_of_ble_eq_true rfl) rfl ?_
          first | refine z_iincN (b := 1) (ls' := [_, _, _, _, _, _, _, _, _, _, _, _]) hX dX6_rolling_106 rfl rfl rfl ?_ | refine z_iinc (ls' := [_, _, _, _, _, _, _, _, _, _, _, _]) hX dX6_rolling_106 rfl rfl ?_
          refine z_goto (tgt := 53) hX dX6_rolling_109 (by decide) ?_
          exact absurd c_94 (Int64.not_le.mpr c_77)
        · -- 94 f
          have := c_94
          refine z_lconst (v := 0) hX dX6_rolling_97 rfl ?_
          refine z_goto (tgt := 103) hX dX6_rolling_98 (by decide) ?_
          refine z_ladd hX dX6_rolling_103 ?_
          refine z_lstore (ls' := [_, _, _, _, _, _, _, _, _, _, _, _]) hX dX6_rolling_104 (Nat.le_of_ble_eq_true rfl) rfl ?_
          first | refine z_iincN (b := 1) (ls' := [_, _, _, _, _, _, _, _, _, _, _, _]) hX dX6_rolling_106 rfl rfl rfl ?_ | refine z_iinc (ls' := [_, _, _, _, _, _, _, _, _, _, _, _]) hX dX6_rolling_106 rfl rfl ?_
          refine z_goto (tgt := 53) hX dX6_rolling_109 (by decide) ?_
          refine z_forget (ls' := [some (.ref 0), some _, some _, some _, none, some _, some _, some _, none, some _, none, none]) ⟨rfl, rfl, rfl, rfl, rfl, rfl, rfl, rfl, trivial⟩ ih2
set_option maxHeartbeats 4000000 in
set_option maxRecDepth 100000 in
theorem lp_roll_30 {X : ZX} {post : Option Value → ZW → Prop} (hX : ZOK X 6 cX6_rolling 2) (hR : ZRet X (some .long) post) (a : Nat → Nat → Int32) (b : Nat → Nat → Int64) (c : Nat → Int32) (d mn : Nat) (hd : d < 4) (hmn : mn ≤ 100) (h15 : a 15 d = nI mn) (wn : Nat) (hwn1 : 1 ≤ wn) (hwn : wn ≤ 24) (hpost : post (some (.long (rlF (b 16) d wn (mn + 1 - wn)))) (WM a b c)) : ∀ (n f : Nat) (bs : Int64), f ≤ mn + 1 - wn → mn + 1 - wn < f + n → bs = rlF (b 16) d wn f → ZG X 30 [some (.ref 0), some (.int (nI d)), some (.int (nI wn)), some (.long bs), none, some (.int (nI f)), none, none, none, none, none, none] [] (WM a b c) := by
  intro n
  induction n with
  | zero => intro f bs z1 z2; omega
  | succ n ih =>
    intro f bs hf1 hf2 hbs
    refine z_iload hX dX6_rolling_30 rfl ?_
    refine z_iload_n hX dX6_rolling_32 rfl ?_
    first | with_reducible refine z_iaddN hX dX6_rolling_33 ?_ | refine z_iadd hX dX6_rolling_33 ?_
    refine z_aload_n hX dX6_rolling_34 rfl ?_
    refine z_get hX dX6_rolling_35 f_6_54 rfl rfl ?_
    refine z_iload_n hX dX6_rolling_38 rfl ?_
    refine z_iald hX dX6_rolling_39 rfl (by omega) (by decide) ?_
    refine z_top h15 ?_
    first | with_reducible refine z_icmp_gtN (tgt := 144) hX dX6_rolling_40 (by decide) (by omega) (by omega) (fun c_40 => ?_) (fun c_40 => ?_) | refine z_icmp_gt (tgt := 144) hX dX6_rolling_40 (by decide) (fun c_40 => ?_) (fun c_40 => ?_)
    · -- 40 t
      have zf : f = mn + 1 - wn := by omega
      rw [← zf, ← hbs] at hpost
      refine z_lload_n hX dX6_rolling_144 rfl ?_
      refine z_lret hX hR dX6_rolling_145 ?_
      exact hpost
    · -- 40 f
      have hcn := cnF_le (b 16) d f wn
      refine z_iconst (v := nI 0) hX dX6_rolling_43 rfl ?_
      refine z_istore (ls' := [_, _, _, _, _, _, _, _, _, _, _, _]) hX dX6_rolling_44 (Nat.le_of_ble_eq_true rfl) rfl ?_
      refine z_lconst (v := 0) hX dX6_rolling_46 rfl ?_
      refine z_lstore (ls' := [_, _, _, _, _, _, _, _, _, _, _, _]) hX dX6_rolling_47 (Nat.le_of_ble_eq_true rfl) rfl ?_
      refine z_iload hX dX6_rolling_49 rfl ?_
      refine z_istore (ls' := [_, _, _, _, _, _, _, _, _, _, _, _]) hX dX6_rolling_51 (Nat.le_of_ble_eq_true rfl) rfl ?_
      refine lp_roll_53 hX hR a b c d mn hd hmn h15 wn f hwn (by omega) _ ?_ (wn + 1) 0 (by omega) (by omega)
      refine z_iconst (v := nI 2) hX dX6_rolling_112 rfl ?_
      refine z_iload hX dX6_rolling_113 rfl ?_
      first | with_reducible refine z_imulN hX dX6_rolling_115 ?_ | refine z_imul hX dX6_rolling_115 ?_
      refine z_iload_n hX dX6_rolling_116 rfl ?_
      first | with_reducible refine z_icmp_ltN (tgt := 138) hX dX6_rolling_117 (by decide) (by omega) (by omega) (fun c_117 => ?_) (fun c_117 => ?_) | refine z_icmp_lt (tgt := 138) hX dX6_rolling_117 (by decide) (fun c_117 => ?_) (fun c_117 => ?_)
      · -- 117 t
        first | refine z_iincN (b := 1) (ls' := [_, _, _, _, _, _, _, _, _, _, _, _]) hX dX6_rolling_138 rfl rfl rfl ?_ | refine z_iinc (ls' := [_, _, _, _, _, _, _, _, _, _, _, _]) hX dX6_rolling_138 rfl rfl ?_
        refine z_goto (tgt := 30) hX dX6_rolling_141 (by decide) ?_
        refine z_forget (ls' := [some (.ref 0), some _, some _, some _, none, some _, none, none, none, none, none, none]) ⟨rfl, rfl, rfl, rfl, rfl, trivial⟩ (ih (f + 1) _ (by omega) (by omega) ?_)
        rw [rlF_s, ← hbs]
        unfold rlT
        rw [if_neg (fun q => by omega)]
      · -- 117 f
        refine z_lload hX dX6_rolling_120 rfl ?_
        refine z_iload hX dX6_rolling_122 rfl ?_
        first | with_reducible refine z_i2lN hX dX6_rolling_124 (by omega) ?_ | refine z_i2l hX dX6_rolling_124 ?_
        refine z_ldiv hX dX6_rolling_125 (lN_ne (by omega) (by omega)) ?_
        refine z_lload_n hX dX6_rolling_126 rfl ?_
        refine z_lcmp hX dX6_rolling_127 ?_
        refine z_lif_le (tgt := 138) hX dX6_rolling_128 (by decide) (fun c_128 => ?_) (fun c_128 => ?_)
        · -- 128 t
          first | refine z_iincN (b := 1) (ls' := [_, _, _, _, _, _, _, _, _, _, _, _]) hX dX6_rolling_138 rfl rfl rfl ?_ | refine z_iinc (ls' := [_, _, _, _, _, _, _, _, _, _, _, _]) hX dX6_rolling_138 rfl rfl ?_
          refine z_goto (tgt := 30) hX dX6_rolling_141 (by decide) ?_
          refine z_forget (ls' := [some (.ref 0), some _, some _, some _, none, some _, none, none, none, none, none, none]) ⟨rfl, rfl, rfl, rfl, rfl, trivial⟩ (ih (f + 1) _ (by omega) (by omega) ?_)
          rw [rlF_s, ← hbs]
          unfold rlT
          rw [if_neg (fun q => absurd q.2 (Int64.not_lt.mpr c_128))]
        · -- 128 f
          refine z_lload hX dX6_rolling_131 rfl ?_
          refine z_iload hX dX6_rolling_133 rfl ?_
          first | with_reducible refine z_i2lN hX dX6_rolling_135 (by omega) ?_ | refine z_i2l hX dX6_rolling_135 ?_
          refine z_ldiv hX dX6_rolling_136 (lN_ne (by omega) (by omega)) ?_
          refine z_lstore_n (ls' := [_, _, _, _, _, _, _, _, _, _, _, _]) hX dX6_rolling_137 (Nat.le_of_ble_eq_true rfl) rfl ?_
          first | refine z_iincN (b := 1) (ls' := [_, _, _, _, _, _, _, _, _, _, _, _]) hX dX6_rolling_138 rfl rfl rfl ?_ | refine z_iinc (ls' := [_, _, _, _, _, _, _, _, _, _, _, _]) hX dX6_rolling_138 rfl rfl ?_
          refine z_goto (tgt := 30) hX dX6_rolling_141 (by decide) ?_
          refine z_forget (ls' := [some (.ref 0), some _, some _, some _, none, some _, none, none, none, none, none, none]) ⟨rfl, rfl, rfl, rfl, rfl, trivial⟩ (ih (f + 1) _ (by omega) (by omega) ?_)
          rw [rlF_s, ← hbs]
          unfold rlT
          rw [if_pos ⟨by omega, c_128⟩]
set_option maxHeartbeats 4000000 in
set_option maxRecDepth 100000 in
theorem c_X6_rolling (a : Nat → Nat → Int32) (b : Nat → Nat → Int64) (c : Nat → Int32) (hok : okM (a 15)) (x y : Int32) : ∀ l, ZC l yX6_rolling cX6_rolling 12 (some .long) 2 [.ref 0, .int x, .int y] (WM a b c) (fun r w' => w' = WM a b c ∧ ((¬ (zJ x 4 ∧ zB y 1 24) ∧ r = some (.long (-1))) ∨ ∃ d mn wn, d < 4 ∧ mn ≤ 100 ∧ 1 ≤ wn ∧ wn ≤ 24 ∧ x = nI d ∧ y = nI wn ∧ a 15 d = nI mn ∧ r = some (.long (rlF (b 16) d wn (mn + 1 - wn))))) := by
  intro l
  refine zc_intro (oc := 6) (by decide +kernel) rfl (Nat.le_of_ble_eq_true rfl) ?_
  intro X hX hR
  refine z_norm (ls' := [_, _, _, _, _, _, _, _, _, _, _, _]) rfl rfl rfl ?_
  refine z_iload_n hX dX6_rolling_0 rfl ?_
  refine z_callS0 hX dX6_rolling_1 ms_6_131 (c_X6_isDoor _ _) (by decide) rfl rfl (Nat.le_of_ble_eq_true rfl) (fun r w1 hp _ => ?_)
  obtain ⟨rfl, ⟨⟨d, hd, rfl⟩, rfl⟩ | ⟨hn_d, rfl⟩⟩ := hp
  · -- 1 T
    obtain ⟨mn, hmn, h15⟩ := hok d hd
    refine z_if_eq (tgt := 19) hX dX6_rolling_4 (by decide) (fun c => absurd c (by decide)) (fun _ => ?_)
    refine z_iload_n hX dX6_rolling_7 rfl ?_
    first | with_reducible refine z_i2lN hX dX6_rolling_8 (by omega) ?_ | refine z_i2l hX dX6_rolling_8 ?_
    refine z_lconst (v := 1) hX dX6_rolling_9 rfl ?_
    refine z_ldc2 hX dX6_rolling_10 k_6_154 ?_
    refine z_callS0 hX dX6_rolling_13 ms_6_71 (c_X6_in _ _ _ _) (by decide) rfl rfl (Nat.le_of_ble_eq_true rfl) (fun r w1 hp _ => ?_)
    obtain ⟨rfl, hp⟩ := hp
    rcases zinB (a := 1) (b := 24) rfl rfl hp with ⟨hB, rfl⟩ | ⟨hnB, rfl⟩
    · -- 13 T
      obtain ⟨wn, hw1, hw2, rfl⟩ : ∃ wn : Nat, 1 ≤ wn ∧ wn ≤ 24 ∧ y = nI wn := by
        have h5 := hB.1
        have h6 := hB.2
        refine ⟨y.toInt.toNat, by omega, by omega, ?_⟩
        rw [← Int32.toInt_inj, nI_toInt (by omega)]
        omega
      refine z_if_ne (tgt := 23) hX dX6_rolling_16 (by decide) (fun _ => ?_) (fun c => absurd c (by decide))
      refine z_ldc2 hX dX6_rolling_23 k_6_149 ?_
      refine z_lstore_n (ls' := [_, _, _, _, _, _, _, _, _, _, _, _]) hX dX6_rolling_26 (Nat.le_of_ble_eq_true rfl) rfl ?_
      refine z_iconst (v := nI 0) hX dX6_rolling_27 rfl ?_
      refine z_istore (ls' := [_, _, _, _, _, _, _, _, _, _, _, _]) hX dX6_rolling_28 (Nat.le_of_ble_eq_true rfl) rfl ?_
      exact lp_roll_30 hX hR a b c d mn hd hmn h15 wn hw1 hw2 ⟨rfl, Or.inr ⟨d, mn, wn, hd, hmn, hw1, hw2, rfl, rfl, h15, rfl⟩⟩ (mn + 2) 0 (-4) (by omega) (by omega) rfl
    · -- 13 F
      refine z_if_ne (tgt := 23) hX dX6_rolling_16 (by decide) (fun c => absurd c (by decide)) (fun _ => ?_)
      refine z_ldc2 hX dX6_rolling_19 k_6_99 ?_
      refine z_lret hX hR dX6_rolling_22 ?_
      exact ⟨rfl, Or.inl ⟨fun q => hnB q.2, rfl⟩⟩
  · -- 1 F
    refine z_if_eq (tgt := 19) hX dX6_rolling_4 (by decide) (fun _ => ?_) (fun c => absurd c (by decide))
    refine z_ldc2 hX dX6_rolling_19 k_6_99 ?_
    refine z_lret hX hR dX6_rolling_22 ?_
    exact ⟨rfl, Or.inl ⟨fun q => hn_d q.1, rfl⟩⟩
def s3F (sh : Nat → Int64) (t : Nat → Int32) (p n : Nat) : Int64 := zfold (fun q s => s + sh (p + q) * (nI 10 - t q).toInt64) n 0
theorem s3F_s (sh : Nat → Int64) (t : Nat → Int32) (p n : Nat) : s3F sh t p (n + 1) = s3F sh t p n + sh (p + n) * (nI 10 - t n).toInt64 := rfl
def abF (sh : Nat → Int64) (t : Nat → Int32) (lim : Int32) (d n : Nat) : Nat := zfold (fun k m => m + if 0 ≤ sh (300 * d + 3 * k) ∧ 10 * lim.toInt64 < s3F sh t (300 * d + 3 * k) 3 then 1 else 0) n 0
theorem abF_s (sh : Nat → Int64) (t : Nat → Int32) (lim : Int32) (d n : Nat) : abF sh t lim d (n + 1) = abF sh t lim d n + if 0 ≤ sh (300 * d + 3 * n) ∧ 10 * lim.toInt64 < s3F sh t (300 * d + 3 * n) 3 then 1 else 0 := rfl
theorem abF_le (sh : Nat → Int64) (t : Nat → Int32) (lim : Int32) (d : Nat) : ∀ n, abF sh t lim d n ≤ n
  | 0 => Nat.le_refl 0
  | n + 1 => by
    have := abF_le sh t lim d n
    rw [abF_s]
    split <;> omega
def kpP (sh : Nat → Int64) (t : Nat → Int32) (lim oft : Int32) (d mn : Nat) : Prop := nI (abF sh t lim d mn) ≤ oft
set_option maxHeartbeats 4000000 in
set_option maxRecDepth 100000 in
theorem lp_kept_43 {X : ZX} {post : Option Value → ZW → Prop} (hX : ZOK X 6 cX6_isKeptAt 0) (hR : ZRet X (some .boolean) post) (a : Nat → Nat → Int32) (b : Nat → Nat → Int64) (c : Nat → Int32) (d mn : Nat) (hd : d < 4) (hmn : mn ≤ 100) (h15 : a 15 d = nI mn) (k : Nat) (hk : k < mn) (K : ZG X 82 [some (.ref 0), some (.int (nI d)), some (.int (nI (abF (b 16) (a 18) (c 1) d k))), some (.int (nI k)), none, some (.long (s3F (b 16) (a 18) (300 * d + 3 * k) 3)), none, none] [] (WM a b c)) : ∀ (n q : Nat), q ≤ 3 → 3 < q + n → ZG X 43 [some (.ref 0), some (.int (nI d)), some (.int (nI (abF (b 16) (a 18) (c 1) d k))), some (.int (nI k)), some (.int (nI (300 * d + 3 * k))), some (.long (s3F (b 16) (a 18) (300 * d + 3 * k) q)), none, some (.int (nI q))] [] (WM a b c) := by
  intro n
  induction n with
  | zero => intro q z1 z2; omega
  | succ n ih =>
    intro q hq1 hq2
    refine z_iload hX dX6_isKeptAt_43 rfl ?_
    refine z_iconst (v := nI 3) hX dX6_isKeptAt_45 rfl ?_
    first | with_reducible refine z_icmp_geN (tgt := 82) hX dX6_isKeptAt_46 (by decide) (by omega) (by omega) (fun c_46 => ?_) (fun c_46 => ?_) | refine z_icmp_ge (tgt := 82) hX dX6_isKeptAt_46 (by decide) (fun c_46 => ?_) (fun c_46 => ?_)
    · -- 46 t
      have zq : q = 3 := by omega
      subst zq
      refine z_forget (ls' := [some (.ref 0), some _, some _, some _, none, some _, none, none]) ⟨rfl, rfl, rfl, rfl, rfl, trivial⟩ K
    · -- 46 f
      refine z_lload hX dX6_isKeptAt_49 rfl ?_
      refine z_aload_n hX dX6_isKeptAt_51 rfl ?_
      refine z_get hX dX6_isKeptAt_52 f_6_57 rfl rfl ?_
      refine z_iload hX dX6_isKeptAt_55 rfl ?_
      refine z_iload hX dX6_isKeptAt_57 rfl ?_
      first | with_reducible refine z_iaddN hX dX6_isKeptAt_59 ?_ | refine z_iadd hX dX6_isKeptAt_59 ?_
      refine z_lald hX dX6_isKeptAt_60 rfl (by omega) (by decide) ?_
      refine z_bipush (v := nI 10) hX dX6_isKeptAt_61 rfl ?_
      refine z_aload_n hX dX6_isKeptAt_63 rfl ?_
      refine z_get hX dX6_isKeptAt_64 f_6_63 rfl rfl ?_
      refine z_iload hX dX6_isKeptAt_67 rfl ?_
      first | refine z_iald hX dX6_isKeptAt_69 rfl (by omega) (by decide) ?_ | refine z_stld (nm := "FROM") (xs := zFROM) hX dX6_isKeptAt_69 (fun _ _ _ _ h => h.1) (by show _ < 24; omega) (by decide) ?_ | refine z_stld (nm := "TO") (xs := zTO) hX dX6_isKeptAt_69 (fun _ _ _ _ h => h.2.1) (by show _ < 24; omega) (by decide) ?_ | refine z_stld (nm := "FALL") (xs := zFALL) hX dX6_isKeptAt_69 (fun _ _ _ _ h => h.2.2.1) (by show _ < 81; omega) (by decide) ?_
      refine z_isub hX dX6_isKeptAt_70 ?_
      refine z_i2l hX dX6_isKeptAt_71 ?_
      refine z_lmul hX dX6_isKeptAt_72 ?_
      refine z_ladd hX dX6_isKeptAt_73 ?_
      refine z_lstore (ls' := [_, _, _, _, _, _, _, _]) hX dX6_isKeptAt_74 (Nat.le_of_ble_eq_true rfl) rfl ?_
      first | refine z_iincN (b := 1) (ls' := [_, _, _, _, _, _, _, _]) hX dX6_isKeptAt_76 rfl rfl rfl ?_ | refine z_iinc (ls' := [_, _, _, _, _, _, _, _]) hX dX6_isKeptAt_76 rfl rfl ?_
      refine z_goto (tgt := 43) hX dX6_isKeptAt_79 (by decide) ?_
      exact ih (q + 1) (by omega) (by omega)
set_option maxHeartbeats 4000000 in
set_option maxRecDepth 100000 in
theorem lp_kept_4 {X : ZX} {post : Option Value → ZW → Prop} (hX : ZOK X 6 cX6_isKeptAt 0) (hR : ZRet X (some .boolean) post) (a : Nat → Nat → Int32) (b : Nat → Nat → Int64) (c : Nat → Int32) (d mn : Nat) (hd : d < 4) (hmn : mn ≤ 100) (h15 : a 15 d = nI mn) (hpost1 : kpP (b 16) (a 18) (c 1) (c 2) d mn → post (some (.int (nI 1))) (WM a b c)) (hpost2 : ¬ kpP (b 16) (a 18) (c 1) (c 2) d mn → post (some (.int (nI 0))) (WM a b c)) : ∀ (n k : Nat), k ≤ mn → mn < k + n → ZG X 4 [some (.ref 0), some (.int (nI d)), some (.int (nI (abF (b 16) (a 18) (c 1) d k))), some (.int (nI k)), none, none, none, none] [] (WM a b c) := by
  intro n
  induction n with
  | zero => intro k z1 z2; omega
  | succ n ih =>
    intro k hk1 hk2
    refine z_iload_n hX dX6_isKeptAt_4 rfl ?_
    refine z_aload_n hX dX6_isKeptAt_5 rfl ?_
    refine z_get hX dX6_isKeptAt_6 f_6_54 rfl rfl ?_
    refine z_iload_n hX dX6_isKeptAt_9 rfl ?_
    refine z_iald hX dX6_isKeptAt_10 rfl (by omega) (by decide) ?_
    refine z_top h15 ?_
    first | with_reducible refine z_icmp_geN (tgt := 111) hX dX6_isKeptAt_11 (by decide) (by omega) (by omega) (fun c_11 => ?_) (fun c_11 => ?_) | refine z_icmp_ge (tgt := 111) hX dX6_isKeptAt_11 (by decide) (fun c_11 => ?_) (fun c_11 => ?_)
    · -- 11 t
      have zk : k = mn := by omega
      subst zk
      refine z_iload_n hX dX6_isKeptAt_111 rfl ?_
      refine z_aload_n hX dX6_isKeptAt_112 rfl ?_
      refine z_get hX dX6_isKeptAt_113 f_6_161 rfl rfl ?_
      refine z_icmp_gt (tgt := 123) hX dX6_isKeptAt_116 (by decide) (fun c_116 => ?_) (fun c_116 => ?_)
      · -- 116 t
        refine z_iconst (v := nI 0) hX dX6_isKeptAt_123 rfl ?_
        refine z_zret hX hR dX6_isKeptAt_124 (by first | exact Or.inl rfl | exact Or.inr rfl | assumption) ?_
        exact hpost2 (fun q => absurd q (Int32.not_le.mpr c_116))
      · -- 116 f
        refine z_iconst (v := nI 1) hX dX6_isKeptAt_119 rfl ?_
        refine z_goto (tgt := 124) hX dX6_isKeptAt_120 (by decide) ?_
        refine z_zret hX hR dX6_isKeptAt_124 (by first | exact Or.inl rfl | exact Or.inr rfl | assumption) ?_
        exact hpost1 (Int32.not_lt.mp c_116)
    · -- 11 f
      have ih2 := ih (k + 1) (by omega) (by omega)
      rw [abF_s] at ih2
      have hle := abF_le (b 16) (a 18) (c 1) d k
      refine z_sipush (v := nI 300) hX dX6_isKeptAt_14 rfl ?_
      refine z_iload_n hX dX6_isKeptAt_17 rfl ?_
      first | with_reducible refine z_imulN hX dX6_isKeptAt_18 ?_ | refine z_imul hX dX6_isKeptAt_18 ?_
      refine z_iconst (v := nI 3) hX dX6_isKeptAt_19 rfl ?_
      refine z_iload_n hX dX6_isKeptAt_20 rfl ?_
      first | with_reducible refine z_imulN hX dX6_isKeptAt_21 ?_ | refine z_imul hX dX6_isKeptAt_21 ?_
      first | with_reducible refine z_iaddN hX dX6_isKeptAt_22 ?_ | refine z_iadd hX dX6_isKeptAt_22 ?_
      refine z_istore (ls' := [_, _, _, _, _, _, _, _]) hX dX6_isKeptAt_23 (Nat.le_of_ble_eq_true rfl) rfl ?_
      refine z_aload_n hX dX6_isKeptAt_25 rfl ?_
      refine z_get hX dX6_isKeptAt_26 f_6_57 rfl rfl ?_
      refine z_iload hX dX6_isKeptAt_29 rfl ?_
      refine z_lald hX dX6_isKeptAt_31 rfl (by omega) (by decide) ?_
      refine z_lconst (v := 0) hX dX6_isKeptAt_32 rfl ?_
      refine z_lcmp hX dX6_isKeptAt_33 ?_
      refine z_lif_lt (tgt := 105) hX dX6_isKeptAt_34 (by decide) (fun c_34 => ?_) (fun c_34 => ?_)
      · -- 34 t
        rw [if_neg (fun q => absurd q.1 (Int64.not_le.mpr c_34)), Nat.add_zero] at ih2
        first | refine z_iincN (b := 1) (ls' := [_, _, _, _, _, _, _, _]) hX dX6_isKeptAt_105 rfl rfl rfl ?_ | refine z_iinc (ls' := [_, _, _, _, _, _, _, _]) hX dX6_isKeptAt_105 rfl rfl ?_
        refine z_goto (tgt := 4) hX dX6_isKeptAt_108 (by decide) ?_
        refine z_forget (ls' := [some (.ref 0), some _, some _, some _, none, none, none, none]) ⟨rfl, rfl, rfl, rfl, trivial⟩ ih2
      · -- 34 f
        refine z_lconst (v := 0) hX dX6_isKeptAt_37 rfl ?_
        refine z_lstore (ls' := [_, _, _, _, _, _, _, _]) hX dX6_isKeptAt_38 (Nat.le_of_ble_eq_true rfl) rfl ?_
        refine z_iconst (v := nI 0) hX dX6_isKeptAt_40 rfl ?_
        refine z_istore (ls' := [_, _, _, _, _, _, _, _]) hX dX6_isKeptAt_41 (Nat.le_of_ble_eq_true rfl) rfl ?_
        refine lp_kept_43 hX hR a b c d mn hd hmn h15 k c_11 ?_ 4 0 (by omega) (by omega)
        refine z_iload_n hX dX6_isKeptAt_82 rfl ?_
        refine z_lload hX dX6_isKeptAt_83 rfl ?_
        refine z_ldc2 hX dX6_isKeptAt_85 k_6_156 ?_
        refine z_aload_n hX dX6_isKeptAt_88 rfl ?_
        refine z_get hX dX6_isKeptAt_89 f_6_158 rfl rfl ?_
        refine z_i2l hX dX6_isKeptAt_92 ?_
        refine z_lmul hX dX6_isKeptAt_93 ?_
        refine z_lcmp hX dX6_isKeptAt_94 ?_
        refine z_lif_le (tgt := 102) hX dX6_isKeptAt_95 (by decide) (fun c_95 => ?_) (fun c_95 => ?_)
        · -- 95 t
          rw [if_neg (fun q => absurd q.2 (Int64.not_lt.mpr c_95))] at ih2
          refine z_iconst (v := nI 0) hX dX6_isKeptAt_102 rfl ?_
          first | with_reducible refine z_iaddN hX dX6_isKeptAt_103 ?_ | refine z_iadd hX dX6_isKeptAt_103 ?_
          refine z_istore_n (ls' := [_, _, _, _, _, _, _, _]) hX dX6_isKeptAt_104 (Nat.le_of_ble_eq_true rfl) rfl ?_
          first | refine z_iincN (b := 1) (ls' := [_, _, _, _, _, _, _, _]) hX dX6_isKeptAt_105 rfl rfl rfl ?_ | refine z_iinc (ls' := [_, _, _, _, _, _, _, _]) hX dX6_isKeptAt_105 rfl rfl ?_
          refine z_goto (tgt := 4) hX dX6_isKeptAt_108 (by decide) ?_
          refine z_forget (ls' := [some (.ref 0), some _, some _, some _, none, none, none, none]) ⟨rfl, rfl, rfl, rfl, trivial⟩ ih2
        · -- 95 f
          rw [if_pos ⟨c_34, c_95⟩] at ih2
          refine z_iconst (v := nI 1) hX dX6_isKeptAt_98 rfl ?_
          refine z_goto (tgt := 103) hX dX6_isKeptAt_99 (by decide) ?_
          first | with_reducible refine z_iaddN hX dX6_isKeptAt_103 ?_ | refine z_iadd hX dX6_isKeptAt_103 ?_
          refine z_istore_n (ls' := [_, _, _, _, _, _, _, _]) hX dX6_isKeptAt_104 (Nat.le_of_ble_eq_true rfl) rfl ?_
          first | refine z_iincN (b := 1) (ls' := [_, _, _, _, _, _, _, _]) hX dX6_isKeptAt_105 rfl rfl rfl ?_ | refine z_iinc (ls' := [_, _, _, _, _, _, _, _]) hX dX6_isKeptAt_105 rfl rfl ?_
          refine z_goto (tgt := 4) hX dX6_isKeptAt_108 (by decide) ?_
          refine z_forget (ls' := [some (.ref 0), some _, some _, some _, none, none, none, none]) ⟨rfl, rfl, rfl, rfl, trivial⟩ ih2
set_option maxHeartbeats 4000000 in
set_option maxRecDepth 100000 in
theorem c_X6_isKeptAt (a : Nat → Nat → Int32) (b : Nat → Nat → Int64) (c : Nat → Int32) (d mn : Nat) (hd : d < 4) (hmn : mn ≤ 100) (h15 : a 15 d = nI mn) : ∀ l, ZC l yX6_isKeptAt cX6_isKeptAt 8 (some .boolean) 0 [.ref 0, .int (nI d)] (WM a b c) (fun r w' => w' = WM a b c ∧ ((kpP (b 16) (a 18) (c 1) (c 2) d mn ∧ r = some (.int (nI 1))) ∨ (¬ kpP (b 16) (a 18) (c 1) (c 2) d mn ∧ r = some (.int (nI 0))))) := by
  intro l
  refine zc_intro (oc := 6) (by decide +kernel) rfl (Nat.le_of_ble_eq_true rfl) ?_
  intro X hX hR
  refine z_norm (ls' := [_, _, _, _, _, _, _, _]) rfl rfl rfl ?_
  refine z_iconst (v := nI 0) hX dX6_isKeptAt_0 rfl ?_
  refine z_istore_n (ls' := [_, _, _, _, _, _, _, _]) hX dX6_isKeptAt_1 (Nat.le_of_ble_eq_true rfl) rfl ?_
  refine z_iconst (v := nI 0) hX dX6_isKeptAt_2 rfl ?_
  refine z_istore_n (ls' := [_, _, _, _, _, _, _, _]) hX dX6_isKeptAt_3 (Nat.le_of_ble_eq_true rfl) rfl ?_
  exact lp_kept_4 hX hR a b c d mn hd hmn h15 (fun h => ⟨rfl, Or.inl ⟨h, rfl⟩⟩) (fun h => ⟨rfl, Or.inr ⟨h, rfl⟩⟩) (mn + 1) 0 (by omega) (by omega)
def t3F (t : Nat → Int32) (x y z : Int32) : Nat → Int32 := upd (upd (upd t 0 x) 1 y) 2 z
set_option maxHeartbeats 4000000 in
set_option maxRecDepth 100000 in
theorem c_X6_setTenths (a : Nat → Nat → Int32) (b : Nat → Nat → Int64) (c : Nat → Int32) (x y z : Int32) : ∀ l, ZC l yX6_setTenths cX6_setTenths 4 none 0 [.ref 0, .int x, .int y, .int z] (WM a b c) (fun r w' => r = none ∧ w' = WM (va_up a 18 (t3F (a 18) x y z)) b c) := by
  intro l
  refine zc_intro (oc := 6) (by decide +kernel) rfl (Nat.le_of_ble_eq_true rfl) ?_
  intro X hX hR
  refine z_norm (ls' := [_, _, _, _]) rfl rfl rfl ?_
  refine z_aload_n hX dX6_setTenths_0 rfl ?_
  refine z_get hX dX6_setTenths_1 f_6_63 rfl rfl ?_
  refine z_iconst (v := nI 0) hX dX6_setTenths_4 rfl ?_
  refine z_iload_n hX dX6_setTenths_5 rfl ?_
  refine z_iast (w' := [_, _, _, _, _, _, _, _, _, _, _, _, _, _, _, _, _, _, _, _]) hX dX6_setTenths_6 rfl (by omega) (by decide) rfl ?_
  refine z_aload_n hX dX6_setTenths_7 rfl ?_
  refine z_get hX dX6_setTenths_8 f_6_63 rfl rfl ?_
  refine z_iconst (v := nI 1) hX dX6_setTenths_11 rfl ?_
  refine z_iload_n hX dX6_setTenths_12 rfl ?_
  refine z_iast (w' := [_, _, _, _, _, _, _, _, _, _, _, _, _, _, _, _, _, _, _, _]) hX dX6_setTenths_13 rfl (by omega) (by decide) rfl ?_
  refine z_aload_n hX dX6_setTenths_14 rfl ?_
  refine z_get hX dX6_setTenths_15 f_6_63 rfl rfl ?_
  refine z_iconst (v := nI 2) hX dX6_setTenths_18 rfl ?_
  refine z_iload_n hX dX6_setTenths_19 rfl ?_
  refine z_iast (w' := [_, _, _, _, _, _, _, _, _, _, _, _, _, _, _, _, _, _, _, _]) hX dX6_setTenths_20 rfl (by omega) (by decide) rfl ?_
  refine z_vret hX hR dX6_setTenths_21 ?_
  exact ⟨rfl, rfl⟩
set_option maxHeartbeats 4000000 in
set_option maxRecDepth 100000 in
theorem c_X6_price (a : Nat → Nat → Int32) (b : Nat → Nat → Int64) (c : Nat → Int32) (x y : Int32) : ∀ l, ZC l yX6_price cX6_price 4 (some .int) 1 [.ref 0, .int x, .int y] (WM a b c) (fun r w' => (¬ (zJ x 3 ∧ zB y 0 1000) ∧ r = some (.int (-1)) ∧ w' = WM a b c) ∨ ∃ f, f < 3 ∧ x = nI f ∧ zB y 0 1000 ∧ r = some (.int (a 17 f)) ∧ w' = WM (va_up a 17 (upd (a 17) f y)) b c) := by
  intro l
  refine zc_intro (oc := 6) (by decide +kernel) rfl (Nat.le_of_ble_eq_true rfl) ?_
  intro X hX hR
  refine z_norm (ls' := [_, _, _, _]) rfl rfl rfl ?_
  refine z_iload_n hX dX6_price_0 rfl ?_
  first | with_reducible refine z_i2lN hX dX6_price_1 (by omega) ?_ | refine z_i2l hX dX6_price_1 ?_
  refine z_lconst (v := 0) hX dX6_price_2 rfl ?_
  refine z_ldc2 hX dX6_price_3 k_6_79 ?_
  refine z_callS0 hX dX6_price_6 ms_6_71 (c_X6_in _ _ _ _) (by decide) rfl rfl (Nat.le_of_ble_eq_true rfl) (fun r w1 hp _ => ?_)
  obtain ⟨rfl, hp⟩ := hp
  rcases zinJ (n := 3) rfl (by decide) hp with ⟨⟨f, hf, rfl⟩, rfl⟩ | ⟨hn_f, rfl⟩
  · -- 6 T
    refine z_if_eq (tgt := 24) hX dX6_price_9 (by decide) (fun c => absurd c (by decide)) (fun _ => ?_)
    refine z_iload_n hX dX6_price_12 rfl ?_
    first | with_reducible refine z_i2lN hX dX6_price_13 (by omega) ?_ | refine z_i2l hX dX6_price_13 ?_
    refine z_lconst (v := 0) hX dX6_price_14 rfl ?_
    refine z_ldc2 hX dX6_price_15 k_6_127 ?_
    refine z_callS0 hX dX6_price_18 ms_6_71 (c_X6_in _ _ _ _) (by decide) rfl rfl (Nat.le_of_ble_eq_true rfl) (fun r w1 hp _ => ?_)
    obtain ⟨rfl, hp⟩ := hp
    rcases zinB (a := 0) (b := 1000) rfl rfl hp with ⟨hB, rfl⟩ | ⟨hnB, rfl⟩
    · -- 18 T
      refine z_if_ne (tgt := 26) hX dX6_price_21 (by decide) (fun _ => ?_) (fun c => absurd c (by decide))
      refine z_aload_n hX dX6_price_26 rfl ?_
      refine z_get hX dX6_price_27 f_6_60 rfl rfl ?_
      refine z_iload_n hX dX6_price_30 rfl ?_
      first | refine z_iald hX dX6_price_31 rfl (by omega) (by decide) ?_ | refine z_stld (nm := "FROM") (xs := zFROM) hX dX6_price_31 (fun _ _ _ _ h => h.1) (by show _ < 24; omega) (by decide) ?_ | refine z_stld (nm := "TO") (xs := zTO) hX dX6_price_31 (fun _ _ _ _ h => h.2.1) (by show _ < 24; omega) (by decide) ?_ | refine z_stld (nm := "FALL") (xs := zFALL) hX dX6_price_31 (fun _ _ _ _ h => h.2.2.1) (by show _ < 81; omega) (by decide) ?_
      refine z_istore_n (ls' := [_, _, _, _]) hX dX6_price_32 (Nat.le_of_ble_eq_true rfl) rfl ?_
      refine z_aload_n hX dX6_price_33 rfl ?_
      refine z_get hX dX6_price_34 f_6_60 rfl rfl ?_
      refine z_iload_n hX dX6_price_37 rfl ?_
      refine z_iload_n hX dX6_price_38 rfl ?_
      refine z_iast (w' := [_, _, _, _, _, _, _, _, _, _, _, _, _, _, _, _, _, _, _, _]) hX dX6_price_39 rfl (by omega) (by decide) rfl ?_
      refine z_iload_n hX dX6_price_40 rfl ?_
      refine z_iret hX hR dX6_price_41 ?_
      exact Or.inr ⟨f, hf, rfl, hB, rfl, rfl⟩
    · -- 18 F
      refine z_if_ne (tgt := 26) hX dX6_price_21 (by decide) (fun c => absurd c (by decide)) (fun _ => ?_)
      refine z_iconst (v := -1) hX dX6_price_24 rfl ?_
      refine z_iret hX hR dX6_price_25 ?_
      exact Or.inl ⟨fun q => hnB q.2, rfl, rfl⟩
  · -- 6 F
    refine z_if_eq (tgt := 24) hX dX6_price_9 (by decide) (fun _ => ?_) (fun c => absurd c (by decide))
    refine z_iconst (v := -1) hX dX6_price_24 rfl ?_
    refine z_iret hX hR dX6_price_25 ?_
    exact Or.inl ⟨fun q => hn_f q.1, rfl, rfl⟩
def okD (sh : Nat → Int64) (t a14 a15 : Nat → Int32) (lim oft : Int32) (d : Nat) : Prop := kpP sh t lim oft d (a15 d).toNatClampNeg
/-- how many of the first n doors are watched and keep the law -/
def lwF (sh : Nat → Int64) (t a14 a15 : Nat → Int32) (lim oft : Int32) : Nat → Nat → Prop
  | 0, m => m = 0
  | n + 1, m => ∃ m0, lwF sh t a14 a15 lim oft n m0 ∧ ((¬ a14 n = 0 ∧ okD sh t a14 a15 lim oft n ∧ m = m0 + 1) ∨ ((a14 n = 0 ∨ ¬ okD sh t a14 a15 lim oft n) ∧ m = m0))
theorem lwF_le {sh : Nat → Int64} {t a14 a15 : Nat → Int32} {lim oft : Int32} : ∀ {n m : Nat}, lwF sh t a14 a15 lim oft n m → m ≤ n
  | 0, m, h => by have : m = 0 := h; omega
  | n + 1, m, h => by
    obtain ⟨m0, h1, h2⟩ := h
    have := lwF_le h1
    rcases h2 with ⟨-, -, h2⟩ | ⟨-, h2⟩ <;> omega
set_option maxHeartbeats 4000000 in
set_option maxRecDepth 100000 in
theorem lp_law_48 {X : ZX} {post : Option Value → ZW → Prop} (hX : ZOK X 6 cX6_law 1) (hR : ZRet X (some .int) post) (a : Nat → Nat → Int32) (b : Nat → Nat → Int64) (c : Nat → Int32) (hok : okM (a 15)) (x y : Int32) (hpost : ∀ m, lwF (b 16) (a 18) (a 14) (a 15) (c 1) (c 2) 4 m → post (some (.int (nI m))) (WM a b c)) : ∀ (n k m : Nat), k ≤ 4 → 4 < k + n → lwF (b 16) (a 18) (a 14) (a 15) (c 1) (c 2) k m → ZG X 48 [some (.ref 0), some (.int x), some (.int y), some (.int (nI m)), some (.int (nI k))] [] (WM a b c) := by
  intro n
  induction n with
  | zero => intro k m z1 z2; omega
  | succ n ih =>
    intro k m hk1 hk2 hm
    refine z_iload hX dX6_law_48 rfl ?_
    refine z_iconst (v := nI 4) hX dX6_law_50 rfl ?_
    first | with_reducible refine z_icmp_geN (tgt := 87) hX dX6_law_51 (by decide) (by omega) (by omega) (fun c_51 => ?_) (fun c_51 => ?_) | refine z_icmp_ge (tgt := 87) hX dX6_law_51 (by decide) (fun c_51 => ?_) (fun c_51 => ?_)
    · -- 51 t
      have zk : k = 4 := by omega
      subst zk
      refine z_iload_n hX dX6_law_87 rfl ?_
      refine z_iret hX hR dX6_law_88 ?_
      exact hpost m hm
    · -- 51 f
      obtain ⟨zmn, zmn1, zmn2⟩ := hok k (by omega)
      have zcl : (a 15 k).toNatClampNeg = zmn := by rw [zmn2, nI_clamp (by omega)]
      have hle := lwF_le hm
      refine z_iload_n hX dX6_law_54 rfl ?_
      refine z_aload_n hX dX6_law_55 rfl ?_
      refine z_get hX dX6_law_56 f_6_51 rfl rfl ?_
      refine z_iload hX dX6_law_59 rfl ?_
      refine z_zald hX dX6_law_61 rfl (by omega) (by decide) ?_
      refine z_if_eq (tgt := 78) hX dX6_law_62 (by decide) (fun c_62 => ?_) (fun c_62 => ?_)
      · -- 62 t
        refine z_iconst (v := nI 0) hX dX6_law_78 rfl ?_
        first | with_reducible refine z_iaddN hX dX6_law_79 ?_ | refine z_iadd hX dX6_law_79 ?_
        refine z_istore_n (ls' := [_, _, _, _, _]) hX dX6_law_80 (Nat.le_of_ble_eq_true rfl) rfl ?_
        first | refine z_iincN (b := 1) (ls' := [_, _, _, _, _]) hX dX6_law_81 rfl rfl rfl ?_ | refine z_iinc (ls' := [_, _, _, _, _]) hX dX6_law_81 rfl rfl ?_
        refine z_goto (tgt := 48) hX dX6_law_84 (by decide) ?_
        exact ih (k + 1) m (by omega) (by omega) ⟨m, hm, Or.inr ⟨Or.inl c_62, rfl⟩⟩
      · -- 62 f
        refine z_aload_n hX dX6_law_65 rfl ?_
        refine z_iload hX dX6_law_66 rfl ?_
        refine z_callV0 hX dX6_law_68 mv_6_170 (c_X6_isKeptAt a b c k zmn (by omega) zmn1 zmn2) (by decide) rfl rfl rfl rfl (Nat.le_of_ble_eq_true rfl) (fun r w1 hp _ => ?_)
        obtain ⟨rfl, ⟨hK1, rfl⟩ | ⟨hK1, rfl⟩⟩ := hp
        · -- 68 T
          refine z_if_eq (tgt := 78) hX dX6_law_71 (by decide) (fun c => absurd c (by decide)) (fun _ => ?_)
          refine z_iconst (v := nI 1) hX dX6_law_74 rfl ?_
          refine z_goto (tgt := 79) hX dX6_law_75 (by decide) ?_
          first | with_reducible refine z_iaddN hX dX6_law_79 ?_ | refine z_iadd hX dX6_law_79 ?_
          refine z_istore_n (ls' := [_, _, _, _, _]) hX dX6_law_80 (Nat.le_of_ble_eq_true rfl) rfl ?_
          first | refine z_iincN (b := 1) (ls' := [_, _, _, _, _]) hX dX6_law_81 rfl rfl rfl ?_ | refine z_iinc (ls' := [_, _, _, _, _]) hX dX6_law_81 rfl rfl ?_
          refine z_goto (tgt := 48) hX dX6_law_84 (by decide) ?_
          exact ih (k + 1) (m + 1) (by omega) (by omega) ⟨m, hm, Or.inl ⟨c_62, by unfold okD; rw [zcl]; exact hK1, rfl⟩⟩
        · -- 68 F
          refine z_if_eq (tgt := 78) hX dX6_law_71 (by decide) (fun _ => ?_) (fun c => absurd c (by decide))
          refine z_iconst (v := nI 0) hX dX6_law_78 rfl ?_
          first | with_reducible refine z_iaddN hX dX6_law_79 ?_ | refine z_iadd hX dX6_law_79 ?_
          refine z_istore_n (ls' := [_, _, _, _, _]) hX dX6_law_80 (Nat.le_of_ble_eq_true rfl) rfl ?_
          first | refine z_iincN (b := 1) (ls' := [_, _, _, _, _]) hX dX6_law_81 rfl rfl rfl ?_ | refine z_iinc (ls' := [_, _, _, _, _]) hX dX6_law_81 rfl rfl ?_
          refine z_goto (tgt := 48) hX dX6_law_84 (by decide) ?_
          exact ih (k + 1) m (by omega) (by omega) ⟨m, hm, Or.inr ⟨Or.inr (by unfold okD; rw [zcl]; exact hK1), rfl⟩⟩
set_option maxHeartbeats 4000000 in
set_option maxRecDepth 100000 in
theorem c_X6_law (a : Nat → Nat → Int32) (b : Nat → Nat → Int64) (c : Nat → Int32) (hok : okM (a 15)) (x y : Int32) : ∀ l, ZC l yX6_law cX6_law 5 (some .int) 1 [.ref 0, .int x, .int y] (WM a b c) (fun r w' => (¬ (zB x 0 1000000000 ∧ zB y 0 100) ∧ r = some (.int (-1)) ∧ w' = WM a b c) ∨ ∃ m, zB x 0 1000000000 ∧ zB y 0 100 ∧ lwF (b 16) (t3F (a 18) (nI 0) (nI 0) (nI 0)) (a 14) (a 15) x y 4 m ∧ r = some (.int (nI m)) ∧ w' = WM (va_up a 18 (t3F (a 18) (nI 0) (nI 0) (nI 0))) b (va_up (va_up c 1 x) 2 y)) := by
  intro l
  refine zc_intro (oc := 6) (by decide +kernel) rfl (Nat.le_of_ble_eq_true rfl) ?_
  intro X hX hR
  refine z_norm (ls' := [_, _, _, _, _]) rfl rfl rfl ?_
  refine z_iload_n hX dX6_law_0 rfl ?_
  first | with_reducible refine z_i2lN hX dX6_law_1 (by omega) ?_ | refine z_i2l hX dX6_law_1 ?_
  refine z_lconst (v := 0) hX dX6_law_2 rfl ?_
  refine z_ldc2 hX dX6_law_3 k_6_164 ?_
  refine z_callS0 hX dX6_law_6 ms_6_71 (c_X6_in _ _ _ _) (by decide) rfl rfl (Nat.le_of_ble_eq_true rfl) (fun r w1 hp _ => ?_)
  obtain ⟨rfl, hp⟩ := hp
  rcases zinB (a := 0) (b := 1000000000) rfl rfl hp with ⟨hB1, rfl⟩ | ⟨hnB1, rfl⟩
  · -- 6 T
    refine z_if_eq (tgt := 24) hX dX6_law_9 (by decide) (fun c => absurd c (by decide)) (fun _ => ?_)
    refine z_iload_n hX dX6_law_12 rfl ?_
    first | with_reducible refine z_i2lN hX dX6_law_13 (by omega) ?_ | refine z_i2l hX dX6_law_13 ?_
    refine z_lconst (v := 0) hX dX6_law_14 rfl ?_
    refine z_ldc2 hX dX6_law_15 k_6_77 ?_
    refine z_callS0 hX dX6_law_18 ms_6_71 (c_X6_in _ _ _ _) (by decide) rfl rfl (Nat.le_of_ble_eq_true rfl) (fun r w1 hp _ => ?_)
    obtain ⟨rfl, hp⟩ := hp
    rcases zinB (a := 0) (b := 100) rfl rfl hp with ⟨hB, rfl⟩ | ⟨hnB, rfl⟩
    · -- 18 T
      refine z_if_ne (tgt := 26) hX dX6_law_21 (by decide) (fun _ => ?_) (fun c => absurd c (by decide))
      refine z_aload_n hX dX6_law_26 rfl ?_
      refine z_iload_n hX dX6_law_27 rfl ?_
      refine z_puti (fs' := [_, _, _, _, _, _, _, _, _, _, _, _, _, _, _, _, _, _, _, _, _, _]) (w' := [_, _, _, _, _, _, _, _, _, _, _, _, _, _, _, _, _, _, _, _]) hX dX6_law_28 p_6_158 rfl (Nat.le_of_ble_eq_true rfl) rfl rfl ?_
      refine z_aload_n hX dX6_law_31 rfl ?_
      refine z_iload_n hX dX6_law_32 rfl ?_
      refine z_puti (fs' := [_, _, _, _, _, _, _, _, _, _, _, _, _, _, _, _, _, _, _, _, _, _]) (w' := [_, _, _, _, _, _, _, _, _, _, _, _, _, _, _, _, _, _, _, _]) hX dX6_law_33 p_6_161 rfl (Nat.le_of_ble_eq_true rfl) rfl rfl ?_
      refine z_aload_n hX dX6_law_36 rfl ?_
      refine z_iconst (v := nI 0) hX dX6_law_37 rfl ?_
      refine z_iconst (v := nI 0) hX dX6_law_38 rfl ?_
      refine z_iconst (v := nI 0) hX dX6_law_39 rfl ?_
      refine z_callV0 hX dX6_law_40 mv_6_166 (c_X6_setTenths a b (va_up (va_up c 1 x) 2 y) _ _ _) (by decide) rfl rfl rfl rfl (Nat.le_of_ble_eq_true rfl) (fun r w1 hp _ => ?_)
      obtain ⟨rfl, rfl⟩ := hp
      refine z_iconst (v := nI 0) hX dX6_law_43 rfl ?_
      refine z_istore_n (ls' := [_, _, _, _, _]) hX dX6_law_44 (Nat.le_of_ble_eq_true rfl) rfl ?_
      refine z_iconst (v := nI 0) hX dX6_law_45 rfl ?_
      refine z_istore (ls' := [_, _, _, _, _]) hX dX6_law_46 (Nat.le_of_ble_eq_true rfl) rfl ?_
      exact lp_law_48 hX hR (va_up a 18 (t3F (a 18) (nI 0) (nI 0) (nI 0))) b (va_up (va_up c 1 x) 2 y) hok x y (fun m hm => Or.inr ⟨m, hB1, hB, hm, rfl, rfl⟩) 5 0 0 (by omega) (by omega) rfl
    · -- 18 F
      refine z_if_ne (tgt := 26) hX dX6_law_21 (by decide) (fun c => absurd c (by decide)) (fun _ => ?_)
      refine z_iconst (v := -1) hX dX6_law_24 rfl ?_
      refine z_iret hX hR dX6_law_25 ?_
      exact Or.inl ⟨fun q => hnB q.2, rfl, rfl⟩
  · -- 6 F
    refine z_if_eq (tgt := 24) hX dX6_law_9 (by decide) (fun _ => ?_) (fun c => absurd c (by decide))
    refine z_iconst (v := -1) hX dX6_law_24 rfl ?_
    refine z_iret hX hR dX6_law_25 ?_
    exact Or.inl ⟨fun q => hnB1 q.1, rfl, rfl⟩
