/-! ===== the class: ranks, rolling means, the law at a log, writing ===== -/
def caF (nu : Nat → Int64) (gp : Nat → Int32) (lt : Nat) (v : Int64) (n : Nat) : Nat := zfold (fun k t => t + if gp (slF lt k) = 0 ∧ v < nu (slF lt k) then 1 else 0) n 0
theorem caF_s (nu : Nat → Int64) (gp : Nat → Int32) (lt : Nat) (v : Int64) (n : Nat) : caF nu gp lt v (n + 1) = caF nu gp lt v n + if gp (slF lt n) = 0 ∧ v < nu (slF lt n) then 1 else 0 := rfl
theorem caF_le (nu : Nat → Int64) (gp : Nat → Int32) (lt : Nat) (v : Int64) : ∀ n, caF nu gp lt v n ≤ n
  | 0 => Nat.le_refl 0
  | n + 1 => by
    have := caF_le nu gp lt v n
    rw [caF_s]
    split <;> omega
set_option maxHeartbeats 4000000 in
set_option maxRecDepth 100000 in
theorem lp_ca_5 {X : ZX} {post : Option Value → ZW → Prop} (hX : ZOK X 2 cX2_countAbove 1) (hR : ZRet X (some .int) post) (nu s0 s1 s2 : Nat → Int64) (gp f : Nat → Int32) (lt : Nat) (hlt : lt < 100) (h2 : f 2 = nI lt) (cn : Nat) (hcn : cn ≤ 100) (h1 : f 1 = nI cn) (v : Int64) (hpost : post (some (.int (nI (caF nu gp lt v cn)))) (WLg nu s0 s1 s2 gp f [])) : ∀ (n k : Nat), k ≤ cn → cn < k + n → ZG X 5 [some (.ref 0), some (.long v), none, some (.int (nI (caF nu gp lt v k))), some (.int (nI k)), none] [] (WLg nu s0 s1 s2 gp f []) := by
  intro n
  induction n with
  | zero => intro k z1 z2; omega
  | succ n ih =>
    intro k hk1 hk2
    refine z_iload hX dX2_countAbove_5 rfl ?_
    refine z_aload_n hX dX2_countAbove_7 rfl ?_
    refine z_get hX dX2_countAbove_8 f_2_28 rfl rfl ?_
    refine z_top h1 ?_
    first | with_reducible refine z_icmp_geN (tgt := 58) hX dX2_countAbove_11 (by decide) (by omega) (by omega) (fun c_11 => ?_) (fun c_11 => ?_) | refine z_icmp_ge (tgt := 58) hX dX2_countAbove_11 (by decide) (fun c_11 => ?_) (fun c_11 => ?_)
    · -- 11 t
      have zk : k = cn := by omega
      subst zk
      refine z_iload_n hX dX2_countAbove_58 rfl ?_
      refine z_iret hX hR dX2_countAbove_59 ?_
      exact hpost
    · -- 11 f
      have ih2 := ih (k + 1) (by omega) (by omega)
      rw [caF_s] at ih2
      refine z_aload_n hX dX2_countAbove_14 rfl ?_
      refine z_iload hX dX2_countAbove_15 rfl ?_
      refine z_callV0 hX dX2_countAbove_17 mv_2_55 (c_X2_slotOf nu s0 s1 s2 gp f lt hlt h2 k (by omega)) (by decide) rfl rfl rfl rfl (Nat.le_of_ble_eq_true rfl) (fun r w1 hp _ => ?_)
      obtain ⟨rfl, rfl⟩ := hp
      have zsl := slF_lt lt k
      refine z_istore (ls' := [_, _, _, _, _, _]) hX dX2_countAbove_20 (Nat.le_of_ble_eq_true rfl) rfl ?_
      refine z_iload_n hX dX2_countAbove_22 rfl ?_
      refine z_aload_n hX dX2_countAbove_23 rfl ?_
      refine z_get hX dX2_countAbove_24 f_2_20 rfl rfl ?_
      refine z_iload hX dX2_countAbove_27 rfl ?_
      refine z_zald hX dX2_countAbove_29 rfl (by omega) (by decide) ?_
      refine z_if_ne (tgt := 49) hX dX2_countAbove_30 (by decide) (fun c_30 => ?_) (fun c_30 => ?_)
      · -- 30 t
        refine z_iconst (v := nI 0) hX dX2_countAbove_49 rfl ?_
        first | with_reducible refine z_iaddN hX dX2_countAbove_50 ?_ | refine z_iadd hX dX2_countAbove_50 ?_
        refine z_istore_n (ls' := [_, _, _, _, _, _]) hX dX2_countAbove_51 (Nat.le_of_ble_eq_true rfl) rfl ?_
        first | refine z_iincN (b := 1) (ls' := [_, _, _, _, _, _]) hX dX2_countAbove_52 rfl rfl rfl ?_ | refine z_iinc (ls' := [_, _, _, _, _, _]) hX dX2_countAbove_52 rfl rfl ?_
        refine z_goto (tgt := 5) hX dX2_countAbove_55 (by decide) ?_
        rw [if_neg (fun q => c_30 q.1)] at ih2
        refine z_forget (ls' := [some (.ref 0), some _, none, some _, some _, none]) ⟨rfl, rfl, rfl, rfl, trivial⟩ ih2
      · -- 30 f
        refine z_aload_n hX dX2_countAbove_33 rfl ?_
        refine z_get hX dX2_countAbove_34 f_2_9 rfl rfl ?_
        refine z_iload hX dX2_countAbove_37 rfl ?_
        refine z_lald hX dX2_countAbove_39 rfl (by omega) (by decide) ?_
        refine z_lload_n hX dX2_countAbove_40 rfl ?_
        refine z_lcmp hX dX2_countAbove_41 ?_
        refine z_lif_le (tgt := 49) hX dX2_countAbove_42 (by decide) (fun c_42 => ?_) (fun c_42 => ?_)
        · -- 42 t
          refine z_iconst (v := nI 0) hX dX2_countAbove_49 rfl ?_
          first | with_reducible refine z_iaddN hX dX2_countAbove_50 ?_ | refine z_iadd hX dX2_countAbove_50 ?_
          refine z_istore_n (ls' := [_, _, _, _, _, _]) hX dX2_countAbove_51 (Nat.le_of_ble_eq_true rfl) rfl ?_
          first | refine z_iincN (b := 1) (ls' := [_, _, _, _, _, _]) hX dX2_countAbove_52 rfl rfl rfl ?_ | refine z_iinc (ls' := [_, _, _, _, _, _]) hX dX2_countAbove_52 rfl rfl ?_
          refine z_goto (tgt := 5) hX dX2_countAbove_55 (by decide) ?_
          rw [if_neg (fun q => absurd q.2 (Int64.not_lt.mpr c_42))] at ih2
          refine z_forget (ls' := [some (.ref 0), some _, none, some _, some _, none]) ⟨rfl, rfl, rfl, rfl, trivial⟩ ih2
        · -- 42 f
          refine z_iconst (v := nI 1) hX dX2_countAbove_45 rfl ?_
          refine z_goto (tgt := 50) hX dX2_countAbove_46 (by decide) ?_
          first | with_reducible refine z_iaddN hX dX2_countAbove_50 ?_ | refine z_iadd hX dX2_countAbove_50 ?_
          refine z_istore_n (ls' := [_, _, _, _, _, _]) hX dX2_countAbove_51 (Nat.le_of_ble_eq_true rfl) rfl ?_
          first | refine z_iincN (b := 1) (ls' := [_, _, _, _, _, _]) hX dX2_countAbove_52 rfl rfl rfl ?_ | refine z_iinc (ls' := [_, _, _, _, _, _]) hX dX2_countAbove_52 rfl rfl ?_
          refine z_goto (tgt := 5) hX dX2_countAbove_55 (by decide) ?_
          rw [if_pos ⟨c_30, c_42⟩] at ih2
          refine z_forget (ls' := [some (.ref 0), some _, none, some _, some _, none]) ⟨rfl, rfl, rfl, rfl, trivial⟩ ih2
set_option maxHeartbeats 4000000 in
set_option maxRecDepth 100000 in
theorem c_X2_countAbove (nu s0 s1 s2 : Nat → Int64) (gp f : Nat → Int32) (lt : Nat) (hlt : lt < 100) (h2 : f 2 = nI lt) (cn : Nat) (hcn : cn ≤ 100) (h1 : f 1 = nI cn) (v : Int64) : ∀ l, ZC l yX2_countAbove cX2_countAbove 6 (some .int) 1 [.ref 0, .long v] (WLg nu s0 s1 s2 gp f []) (fun r w' => w' = WLg nu s0 s1 s2 gp f [] ∧ r = some (.int (nI (caF nu gp lt v cn)))) := by
  intro l
  refine zc_intro (oc := 2) (by decide +kernel) rfl (Nat.le_of_ble_eq_true rfl) ?_
  intro X hX hR
  refine z_norm (ls' := [_, _, _, _, _, _]) rfl rfl rfl ?_
  refine z_iconst (v := nI 0) hX dX2_countAbove_0 rfl ?_
  refine z_istore_n (ls' := [_, _, _, _, _, _]) hX dX2_countAbove_1 (Nat.le_of_ble_eq_true rfl) rfl ?_
  refine z_iconst (v := nI 0) hX dX2_countAbove_2 rfl ?_
  refine z_istore (ls' := [_, _, _, _, _, _]) hX dX2_countAbove_3 (Nat.le_of_ble_eq_true rfl) rfl ?_
  exact lp_ca_5 hX hR nu s0 s1 s2 gp f lt hlt h2 cn hcn h1 v ⟨rfl, rfl⟩ (cn + 1) 0 (by omega) (by omega)
def grOK (nu : Nat → Int64) (gp : Nat → Int32) (lt cn : Nat) (y : Int32) (i : Nat) : Prop := gp (slF lt i) = 0 ∧ ¬ y ≤ nI (caF nu gp lt (nu (slF lt i)) cn) ∧ ¬ nI (caF nu gp lt (nu (slF lt i) - 1) cn) < y
set_option maxHeartbeats 4000000 in
set_option maxRecDepth 100000 in
theorem lp_gr_2 {X : ZX} {post : Option Value → ZW → Prop} (hX : ZOK X 2 cX2_greatest 2) (hR : ZRet X (some .long) post) (nu s0 s1 s2 : Nat → Int64) (gp f : Nat → Int32) (lt : Nat) (hlt : lt < 100) (h2 : f 2 = nI lt) (cn : Nat) (hcn : cn ≤ 100) (h1 : f 1 = nI cn) (y : Int32) (hpost1 : ∀ i, i < cn → grOK nu gp lt cn y i → post (some (.long (nu (slF lt i)))) (WLg nu s0 s1 s2 gp f [])) (hpost2 : (∀ j, j < cn → ¬ grOK nu gp lt cn y j) → post (some (.long (-4))) (WLg nu s0 s1 s2 gp f [])) : ∀ (n k : Nat), k ≤ cn → cn < k + n → (∀ j, j < k → ¬ grOK nu gp lt cn y j) → ZG X 2 [some (.ref 0), some (.int y), some (.int (nI k)), none, none, none] [] (WLg nu s0 s1 s2 gp f []) := by
  intro n
  induction n with
  | zero => intro k z1 z2; omega
  | succ n ih =>
    intro k hk1 hk2 hno
    refine z_iload_n hX dX2_greatest_2 rfl ?_
    refine z_aload_n hX dX2_greatest_3 rfl ?_
    refine z_get hX dX2_greatest_4 f_2_28 rfl rfl ?_
    refine z_top h1 ?_
    first | with_reducible refine z_icmp_geN (tgt := 64) hX dX2_greatest_7 (by decide) (by omega) (by omega) (fun c_7 => ?_) (fun c_7 => ?_) | refine z_icmp_ge (tgt := 64) hX dX2_greatest_7 (by decide) (fun c_7 => ?_) (fun c_7 => ?_)
    · -- 7 t
      have zk : k = cn := by omega
      subst zk
      refine z_ldc2 hX dX2_greatest_64 k_2_63 ?_
      refine z_lret hX hR dX2_greatest_67 ?_
      exact hpost2 hno
    · -- 7 f
      refine z_aload_n hX dX2_greatest_10 rfl ?_
      refine z_iload_n hX dX2_greatest_11 rfl ?_
      refine z_callV0 hX dX2_greatest_12 mv_2_55 (c_X2_slotOf nu s0 s1 s2 gp f lt hlt h2 k (by omega)) (by decide) rfl rfl rfl rfl (Nat.le_of_ble_eq_true rfl) (fun r w1 hp _ => ?_)
      obtain ⟨rfl, rfl⟩ := hp
      have zsl := slF_lt lt k
      refine z_istore_n (ls' := [_, _, _, _, _, _]) hX dX2_greatest_15 (Nat.le_of_ble_eq_true rfl) rfl ?_
      refine z_aload_n hX dX2_greatest_16 rfl ?_
      refine z_get hX dX2_greatest_17 f_2_9 rfl rfl ?_
      refine z_iload_n hX dX2_greatest_20 rfl ?_
      refine z_lald hX dX2_greatest_21 rfl (by omega) (by decide) ?_
      refine z_lstore (ls' := [_, _, _, _, _, _]) hX dX2_greatest_22 (Nat.le_of_ble_eq_true rfl) rfl ?_
      refine z_aload_n hX dX2_greatest_24 rfl ?_
      refine z_get hX dX2_greatest_25 f_2_20 rfl rfl ?_
      refine z_iload_n hX dX2_greatest_28 rfl ?_
      refine z_zald hX dX2_greatest_29 rfl (by omega) (by decide) ?_
      refine z_if_ne (tgt := 58) hX dX2_greatest_30 (by decide) (fun c_30 => ?_) (fun c_30 => ?_)
      · -- 30 t
        first | refine z_iincN (b := 1) (ls' := [_, _, _, _, _, _]) hX dX2_greatest_58 rfl rfl rfl ?_ | refine z_iinc (ls' := [_, _, _, _, _, _]) hX dX2_greatest_58 rfl rfl ?_
        refine z_goto (tgt := 2) hX dX2_greatest_61 (by decide) ?_
        refine z_forget (ls' := [some (.ref 0), some _, some _, none, none, none]) ⟨rfl, rfl, rfl, trivial⟩ (ih (k + 1) (by omega) (by omega) (fun j hj => ?_))
        rcases (show j < k ∨ j = k by omega) with e | e
        · exact hno j e
        · rw [e]
          exact fun q => c_30 q.1
      · -- 30 f
        refine z_aload_n hX dX2_greatest_33 rfl ?_
        refine z_lload hX dX2_greatest_34 rfl ?_
        refine z_callV0 hX dX2_greatest_36 mv_2_69 (c_X2_countAbove nu s0 s1 s2 gp f lt hlt h2 cn hcn h1 _) (by decide) rfl rfl rfl rfl (Nat.le_of_ble_eq_true rfl) (fun r w1 hp _ => ?_)
        obtain ⟨rfl, rfl⟩ := hp
        refine z_iload_n hX dX2_greatest_39 rfl ?_
        refine z_icmp_ge (tgt := 58) hX dX2_greatest_40 (by decide) (fun c_40 => ?_) (fun c_40 => ?_)
        · -- 40 t
          first | refine z_iincN (b := 1) (ls' := [_, _, _, _, _, _]) hX dX2_greatest_58 rfl rfl rfl ?_ | refine z_iinc (ls' := [_, _, _, _, _, _]) hX dX2_greatest_58 rfl rfl ?_
          refine z_goto (tgt := 2) hX dX2_greatest_61 (by decide) ?_
          refine z_forget (ls' := [some (.ref 0), some _, some _, none, none, none]) ⟨rfl, rfl, rfl, trivial⟩ (ih (k + 1) (by omega) (by omega) (fun j hj => ?_))
          rcases (show j < k ∨ j = k by omega) with e | e
          · exact hno j e
          · rw [e]
            exact fun q => q.2.1 c_40
        · -- 40 f
          refine z_aload_n hX dX2_greatest_43 rfl ?_
          refine z_lload hX dX2_greatest_44 rfl ?_
          refine z_lconst (v := 1) hX dX2_greatest_46 rfl ?_
          refine z_lsub hX dX2_greatest_47 ?_
          refine z_callV0 hX dX2_greatest_48 mv_2_69 (c_X2_countAbove nu s0 s1 s2 gp f lt hlt h2 cn hcn h1 _) (by decide) rfl rfl rfl rfl (Nat.le_of_ble_eq_true rfl) (fun r w1 hp _ => ?_)
          obtain ⟨rfl, rfl⟩ := hp
          refine z_iload_n hX dX2_greatest_51 rfl ?_
          refine z_icmp_lt (tgt := 58) hX dX2_greatest_52 (by decide) (fun c_52 => ?_) (fun c_52 => ?_)
          · -- 52 t
            first | refine z_iincN (b := 1) (ls' := [_, _, _, _, _, _]) hX dX2_greatest_58 rfl rfl rfl ?_ | refine z_iinc (ls' := [_, _, _, _, _, _]) hX dX2_greatest_58 rfl rfl ?_
            refine z_goto (tgt := 2) hX dX2_greatest_61 (by decide) ?_
            refine z_forget (ls' := [some (.ref 0), some _, some _, none, none, none]) ⟨rfl, rfl, rfl, trivial⟩ (ih (k + 1) (by omega) (by omega) (fun j hj => ?_))
            rcases (show j < k ∨ j = k by omega) with e | e
            · exact hno j e
            · rw [e]
              exact fun q => q.2.2 c_52
          · -- 52 f
            refine z_lload hX dX2_greatest_55 rfl ?_
            refine z_lret hX hR dX2_greatest_57 ?_
            exact hpost1 k c_7 ⟨c_30, c_40, c_52⟩
set_option maxHeartbeats 4000000 in
set_option maxRecDepth 100000 in
theorem c_X2_greatest (nu s0 s1 s2 : Nat → Int64) (gp f : Nat → Int32) (lt : Nat) (hlt : lt < 100) (h2 : f 2 = nI lt) (cn : Nat) (hcn : cn ≤ 100) (h1 : f 1 = nI cn) (y : Int32) : ∀ l, ZC l yX2_greatest cX2_greatest 6 (some .long) 2 [.ref 0, .int y] (WLg nu s0 s1 s2 gp f []) (fun r w' => w' = WLg nu s0 s1 s2 gp f [] ∧ (((∀ j, j < cn → ¬ grOK nu gp lt cn y j) ∧ r = some (.long (-4))) ∨ ∃ i, i < cn ∧ grOK nu gp lt cn y i ∧ r = some (.long (nu (slF lt i))))) := by
  intro l
  refine zc_intro (oc := 2) (by decide +kernel) rfl (Nat.le_of_ble_eq_true rfl) ?_
  intro X hX hR
  refine z_norm (ls' := [_, _, _, _, _, _]) rfl rfl rfl ?_
  refine z_iconst (v := nI 0) hX dX2_greatest_0 rfl ?_
  refine z_istore_n (ls' := [_, _, _, _, _, _]) hX dX2_greatest_1 (Nat.le_of_ble_eq_true rfl) rfl ?_
  exact lp_gr_2 hX hR nu s0 s1 s2 gp f lt hlt h2 cn hcn h1 y (fun i e1 e2 => ⟨rfl, Or.inr ⟨i, e1, e2, rfl⟩⟩) (fun e => ⟨rfl, Or.inl ⟨e, rfl⟩⟩) (cn + 1) 0 (by omega) (by omega) (fun j hj => by omega)
def gmT (nu : Nat → Int64) (gp : Nat → Int32) (lt wn f : Nat) (bs : Int64) : Int64 := if 0 < wiF gp lt f wn ∧ (wn + 1) / 2 ≤ wiF gp lt f wn then (if siF nu gp lt f wn / lN (wiF gp lt f wn) ≤ bs then bs else siF nu gp lt f wn / lN (wiF gp lt f wn)) else bs
def gmF (nu : Nat → Int64) (gp : Nat → Int32) (lt wn n : Nat) : Int64 := zfold (gmT nu gp lt wn) n (-4)
theorem gmF_s (nu : Nat → Int64) (gp : Nat → Int32) (lt wn n : Nat) : gmF nu gp lt wn (n + 1) = gmT nu gp lt wn n (gmF nu gp lt wn n) := rfl
set_option maxHeartbeats 4000000 in
set_option maxRecDepth 100000 in
theorem lp_gm_14 {X : ZX} {post : Option Value → ZW → Prop} (hX : ZOK X 2 cX2_greatestMean 2) (hR : ZRet X (some .long) post) (nu s0 s1 s2 : Nat → Int64) (gp f : Nat → Int32) (lt : Nat) (hlt : lt < 100) (h2 : f 2 = nI lt) (cn : Nat) (hcn : cn ≤ 100) (h1 : f 1 = nI cn) (wn : Nat) (hw1 : 1 ≤ wn) (hw2 : wn ≤ 24) (hpost : post (some (.long (gmF nu gp lt wn (cn + 1 - wn)))) (WLg nu s0 s1 s2 gp f [])) : ∀ (n q : Nat) (bs : Int64), q ≤ cn + 1 - wn → cn + 1 - wn < q + n → bs = gmF nu gp lt wn q → ZG X 14 [some (.ref 0), some (.int (nI wn)), some (.long bs), none, some (.int (nI ((wn + 1) / 2))), some (.int (nI q)), none] [] (WLg nu s0 s1 s2 gp f []) := by
  intro n
  induction n with
  | zero => intro q bs z1 z2; omega
  | succ n ih =>
    intro q bs hq1 hq2 hbs
    refine z_iload hX dX2_greatestMean_14 rfl ?_
    refine z_iload_n hX dX2_greatestMean_16 rfl ?_
    first | with_reducible refine z_iaddN hX dX2_greatestMean_17 ?_ | refine z_iadd hX dX2_greatestMean_17 ?_
    refine z_aload_n hX dX2_greatestMean_18 rfl ?_
    refine z_get hX dX2_greatestMean_19 f_2_28 rfl rfl ?_
    refine z_top h1 ?_
    first | with_reducible refine z_icmp_gtN (tgt := 68) hX dX2_greatestMean_22 (by decide) (by omega) (by omega) (fun c_22 => ?_) (fun c_22 => ?_) | refine z_icmp_gt (tgt := 68) hX dX2_greatestMean_22 (by decide) (fun c_22 => ?_) (fun c_22 => ?_)
    · -- 22 t
      have zq : q = cn + 1 - wn := by omega
      rw [← zq, ← hbs] at hpost
      refine z_lload_n hX dX2_greatestMean_68 rfl ?_
      refine z_lret hX hR dX2_greatestMean_69 ?_
      exact hpost
    · -- 22 f
      have hwi := wiF_le gp lt q wn
      refine z_aload_n hX dX2_greatestMean_25 rfl ?_
      refine z_iload hX dX2_greatestMean_26 rfl ?_
      refine z_iload_n hX dX2_greatestMean_28 rfl ?_
      refine z_callV0 hX dX2_greatestMean_29 mv_2_52 (c_X2_writtenIn nu s0 s1 s2 gp f lt hlt h2 q wn (by omega)) (by decide) rfl rfl rfl rfl (Nat.le_of_ble_eq_true rfl) (fun r w1 hp _ => ?_)
      obtain ⟨rfl, rfl⟩ := hp
      refine z_istore (ls' := [_, _, _, _, _, _, _]) hX dX2_greatestMean_32 (Nat.le_of_ble_eq_true rfl) rfl ?_
      refine z_iload hX dX2_greatestMean_34 rfl ?_
      refine z_if_le (tgt := 62) hX dX2_greatestMean_36 (by decide) (fun c_36 => ?_) (fun c_36 => ?_)
      · -- 36 t
        have c_36 : wiF gp lt q wn = 0 := by
          have := (nI_leI (a := wiF gp lt q wn) (b := 0) (by omega) (by omega)).mp c_36
          omega
        first | refine z_iincN (b := 1) (ls' := [_, _, _, _, _, _, _]) hX dX2_greatestMean_62 rfl rfl rfl ?_ | refine z_iinc (ls' := [_, _, _, _, _, _, _]) hX dX2_greatestMean_62 rfl rfl ?_
        refine z_goto (tgt := 14) hX dX2_greatestMean_65 (by decide) ?_
        refine z_forget (ls' := [some (.ref 0), some _, some _, none, some _, some _, none]) ⟨rfl, rfl, rfl, rfl, rfl, trivial⟩ (ih (q + 1) _ (by omega) (by omega) ?_)
        rw [gmF_s, ← hbs]
        unfold gmT
        rw [if_neg (fun z => by omega)]
      · -- 36 f
        have c_36 : 0 < wiF gp lt q wn := by
          rcases Nat.eq_zero_or_pos (wiF gp lt q wn) with e | e
          · rw [e] at c_36
            exact absurd (by decide) c_36
          · exact e
        refine z_iload hX dX2_greatestMean_39 rfl ?_
        refine z_iload hX dX2_greatestMean_41 rfl ?_
        first | with_reducible refine z_icmp_ltN (tgt := 62) hX dX2_greatestMean_43 (by decide) (by omega) (by omega) (fun c_43 => ?_) (fun c_43 => ?_) | refine z_icmp_lt (tgt := 62) hX dX2_greatestMean_43 (by decide) (fun c_43 => ?_) (fun c_43 => ?_)
        · -- 43 t
          first | refine z_iincN (b := 1) (ls' := [_, _, _, _, _, _, _]) hX dX2_greatestMean_62 rfl rfl rfl ?_ | refine z_iinc (ls' := [_, _, _, _, _, _, _]) hX dX2_greatestMean_62 rfl rfl ?_
          refine z_goto (tgt := 14) hX dX2_greatestMean_65 (by decide) ?_
          refine z_forget (ls' := [some (.ref 0), some _, some _, none, some _, some _, none]) ⟨rfl, rfl, rfl, rfl, rfl, trivial⟩ (ih (q + 1) _ (by omega) (by omega) ?_)
          rw [gmF_s, ← hbs]
          unfold gmT
          rw [if_neg (fun z => by omega)]
        · -- 43 f
          refine z_lload_n hX dX2_greatestMean_46 rfl ?_
          refine z_aload_n hX dX2_greatestMean_47 rfl ?_
          refine z_iload hX dX2_greatestMean_48 rfl ?_
          refine z_iload_n hX dX2_greatestMean_50 rfl ?_
          refine z_callV0 hX dX2_greatestMean_51 mv_2_65 (c_X2_sumIn nu s0 s1 s2 gp f lt hlt h2 q wn (by omega)) (by decide) rfl rfl rfl rfl (Nat.le_of_ble_eq_true rfl) (fun r w1 hp _ => ?_)
          obtain ⟨rfl, rfl⟩ := hp
          refine z_iload hX dX2_greatestMean_54 rfl ?_
          first | with_reducible refine z_i2lN hX dX2_greatestMean_56 (by omega) ?_ | refine z_i2l hX dX2_greatestMean_56 ?_
          refine z_ldiv hX dX2_greatestMean_57 (lN_ne (by omega) (by omega)) ?_
          refine z_callS0 hX dX2_greatestMean_58 ms_2_73 (c_J_max _ _ _) (by decide) rfl rfl (Nat.le_of_ble_eq_true rfl) (fun r w1 hp _ => ?_)
          obtain ⟨rfl, rfl⟩ := hp
          refine z_lstore_n (ls' := [_, _, _, _, _, _, _]) hX dX2_greatestMean_61 (Nat.le_of_ble_eq_true rfl) rfl ?_
          first | refine z_iincN (b := 1) (ls' := [_, _, _, _, _, _, _]) hX dX2_greatestMean_62 rfl rfl rfl ?_ | refine z_iinc (ls' := [_, _, _, _, _, _, _]) hX dX2_greatestMean_62 rfl rfl ?_
          refine z_goto (tgt := 14) hX dX2_greatestMean_65 (by decide) ?_
          refine z_forget (ls' := [some (.ref 0), some _, some _, none, some _, some _, none]) ⟨rfl, rfl, rfl, rfl, rfl, trivial⟩ (ih (q + 1) _ (by omega) (by omega) ?_)
          rw [gmF_s, ← hbs]
          unfold gmT
          rw [if_pos (And.intro c_36 c_43)]
set_option maxHeartbeats 4000000 in
set_option maxRecDepth 100000 in
theorem c_X2_greatestMean (nu s0 s1 s2 : Nat → Int64) (gp f : Nat → Int32) (lt : Nat) (hlt : lt < 100) (h2 : f 2 = nI lt) (cn : Nat) (hcn : cn ≤ 100) (h1 : f 1 = nI cn) (wn : Nat) (hw1 : 1 ≤ wn) (hw2 : wn ≤ 24) : ∀ l, ZC l yX2_greatestMean cX2_greatestMean 7 (some .long) 2 [.ref 0, .int (nI wn)] (WLg nu s0 s1 s2 gp f []) (fun r w' => w' = WLg nu s0 s1 s2 gp f [] ∧ r = some (.long (gmF nu gp lt wn (cn + 1 - wn)))) := by
  intro l
  refine zc_intro (oc := 2) (by decide +kernel) rfl (Nat.le_of_ble_eq_true rfl) ?_
  intro X hX hR
  refine z_norm (ls' := [_, _, _, _, _, _, _]) rfl rfl rfl ?_
  refine z_ldc2 hX dX2_greatestMean_0 k_2_63 ?_
  refine z_lstore_n (ls' := [_, _, _, _, _, _, _]) hX dX2_greatestMean_3 (Nat.le_of_ble_eq_true rfl) rfl ?_
  refine z_iload_n hX dX2_greatestMean_4 rfl ?_
  refine z_iconst (v := nI 1) hX dX2_greatestMean_5 rfl ?_
  first | with_reducible refine z_iaddN hX dX2_greatestMean_6 ?_ | refine z_iadd hX dX2_greatestMean_6 ?_
  refine z_iconst (v := nI 2) hX dX2_greatestMean_7 rfl ?_
  first | with_reducible refine z_idivN hX dX2_greatestMean_8 (by omega) (by decide) (by decide) ?_ | refine z_idiv hX dX2_greatestMean_8 (by decide) ?_
  refine z_istore (ls' := [_, _, _, _, _, _, _]) hX dX2_greatestMean_9 (Nat.le_of_ble_eq_true rfl) rfl ?_
  refine z_iconst (v := nI 0) hX dX2_greatestMean_11 rfl ?_
  refine z_istore (ls' := [_, _, _, _, _, _, _]) hX dX2_greatestMean_12 (Nat.le_of_ble_eq_true rfl) rfl ?_
  exact lp_gm_14 hX hR nu s0 s1 s2 gp f lt hlt h2 cn hcn h1 wn hw1 hw2 ⟨rfl, rfl⟩ (cn + 2) 0 (-4) (by omega) (by omega) rfl
def ttF (s0 s1 s2 : Nat → Int64) (l0 l1 l2 : Int32) (p : Nat) : Int64 := s0 p * l0.toInt64 + s1 p * l1.toInt64 + s2 p * l2.toInt64
def aaF (s0 s1 s2 : Nat → Int64) (gp : Nat → Int32) (lt : Nat) (bd : Int64) (l0 l1 l2 : Int32) (n : Nat) : Nat := zfold (fun k t => t + if gp (slF lt k) = 0 ∧ bd < ttF s0 s1 s2 l0 l1 l2 (slF lt k) then 1 else 0) n 0
theorem aaF_s (s0 s1 s2 : Nat → Int64) (gp : Nat → Int32) (lt : Nat) (bd : Int64) (l0 l1 l2 : Int32) (n : Nat) : aaF s0 s1 s2 gp lt bd l0 l1 l2 (n + 1) = aaF s0 s1 s2 gp lt bd l0 l1 l2 n + if gp (slF lt n) = 0 ∧ bd < ttF s0 s1 s2 l0 l1 l2 (slF lt n) then 1 else 0 := rfl
theorem aaF_le (s0 s1 s2 : Nat → Int64) (gp : Nat → Int32) (lt : Nat) (bd : Int64) (l0 l1 l2 : Int32) : ∀ n, aaF s0 s1 s2 gp lt bd l0 l1 l2 n ≤ n
  | 0 => Nat.le_refl 0
  | n + 1 => by
    have := aaF_le s0 s1 s2 gp lt bd l0 l1 l2 n
    rw [aaF_s]
    split <;> omega
theorem aaF_mono (s0 s1 s2 : Nat → Int64) (gp : Nat → Int32) (lt : Nat) (bd : Int64) (l0 l1 l2 : Int32) (k : Nat) : ∀ n, aaF s0 s1 s2 gp lt bd l0 l1 l2 k ≤ aaF s0 s1 s2 gp lt bd l0 l1 l2 (k + n)
  | 0 => Nat.le_refl _
  | n + 1 => by
    have := aaF_mono s0 s1 s2 gp lt bd l0 l1 l2 k n
    rw [← Nat.add_assoc, aaF_s]
    omega
set_option maxHeartbeats 4000000 in
set_option maxRecDepth 100000 in
theorem lp_aa_6 {X : ZX} {post : Option Value → ZW → Prop} (hX : ZOK X 2 cX2_isAboveAtMost 1) (hR : ZRet X (some .boolean) post) (nu s0 s1 s2 : Nat → Int64) (gp f : Nat → Int32) (lt : Nat) (hlt : lt < 100) (h2 : f 2 = nI lt) (cn : Nat) (hcn : cn ≤ 100) (h1 : f 1 = nI cn) (mo : Int32) (bd : Int64) (l0 l1 l2 : Int32) (hpost1 : nI (aaF s0 s1 s2 gp lt bd l0 l1 l2 cn) ≤ mo → post (some (.int (nI 1))) (WLg nu s0 s1 s2 gp f [])) (hpost2 : ¬ nI (aaF s0 s1 s2 gp lt bd l0 l1 l2 cn) ≤ mo → post (some (.int (nI 0))) (WLg nu s0 s1 s2 gp f [])) : ∀ (n k : Nat), k ≤ cn → cn < k + n → ZG X 6 [some (.ref 0), some (.int mo), some (.long bd), none, some (.int l0), some (.int l1), some (.int l2), some (.int (nI (aaF s0 s1 s2 gp lt bd l0 l1 l2 k))), some (.int (nI k)), none, none, none] [] (WLg nu s0 s1 s2 gp f []) := by
  intro n
  induction n with
  | zero => intro k z1 z2; omega
  | succ n ih =>
    intro k hk1 hk2
    have hle := aaF_le s0 s1 s2 gp lt bd l0 l1 l2 k
    have hle2 := aaF_le s0 s1 s2 gp lt bd l0 l1 l2 cn
    have hmo := aaF_mono s0 s1 s2 gp lt bd l0 l1 l2 k (cn - k)
    rw [show k + (cn - k) = cn by omega] at hmo
    refine z_iload hX dX2_isAboveAtMost_6 rfl ?_
    refine z_aload_n hX dX2_isAboveAtMost_8 rfl ?_
    refine z_get hX dX2_isAboveAtMost_9 f_2_28 rfl rfl ?_
    refine z_top h1 ?_
    first | with_reducible refine z_icmp_geN (tgt := 105) hX dX2_isAboveAtMost_12 (by decide) (by omega) (by omega) (fun c_12 => ?_) (fun c_12 => ?_) | refine z_icmp_ge (tgt := 105) hX dX2_isAboveAtMost_12 (by decide) (fun c_12 => ?_) (fun c_12 => ?_)
    · -- 12 t
      have zk : k = cn := by omega
      subst zk
      refine z_iload hX dX2_isAboveAtMost_105 rfl ?_
      refine z_iload_n hX dX2_isAboveAtMost_107 rfl ?_
      refine z_icmp_gt (tgt := 115) hX dX2_isAboveAtMost_108 (by decide) (fun c_108 => ?_) (fun c_108 => ?_)
      · -- 108 t
        refine z_iconst (v := nI 0) hX dX2_isAboveAtMost_115 rfl ?_
        refine z_zret hX hR dX2_isAboveAtMost_116 (by first | exact Or.inl rfl | exact Or.inr rfl | assumption) ?_
        refine hpost2 (fun q => ?_)
        rw [Int32.lt_iff_toInt_lt, nI_toInt (by omega)] at c_108
        rw [Int32.le_iff_toInt_le, nI_toInt (by omega)] at q
        omega
      · -- 108 f
        refine z_iconst (v := nI 1) hX dX2_isAboveAtMost_111 rfl ?_
        refine z_goto (tgt := 116) hX dX2_isAboveAtMost_112 (by decide) ?_
        refine z_zret hX hR dX2_isAboveAtMost_116 (by first | exact Or.inl rfl | exact Or.inr rfl | assumption) ?_
        refine hpost1 ?_
        exact Int32.not_lt.mp c_108
    · -- 12 f
      have ih2 := ih (k + 1) (by omega) (by omega)
      rw [aaF_s] at ih2
      refine z_iload hX dX2_isAboveAtMost_15 rfl ?_
      refine z_iload_n hX dX2_isAboveAtMost_17 rfl ?_
      refine z_icmp_gt (tgt := 105) hX dX2_isAboveAtMost_18 (by decide) (fun c_18 => ?_) (fun c_18 => ?_)
      · -- 18 t
        refine z_iload hX dX2_isAboveAtMost_105 rfl ?_
        refine z_iload_n hX dX2_isAboveAtMost_107 rfl ?_
        refine z_icmp_gt (tgt := 115) hX dX2_isAboveAtMost_108 (by decide) (fun c_108 => ?_) (fun c_108 => ?_)
        · -- 108 t
          refine z_iconst (v := nI 0) hX dX2_isAboveAtMost_115 rfl ?_
          refine z_zret hX hR dX2_isAboveAtMost_116 (by first | exact Or.inl rfl | exact Or.inr rfl | assumption) ?_
          refine hpost2 (fun q => ?_)
          rw [Int32.lt_iff_toInt_lt, nI_toInt (by omega)] at c_108
          rw [Int32.le_iff_toInt_le, nI_toInt (by omega)] at q
          omega
        · -- 108 f
          refine z_iconst (v := nI 1) hX dX2_isAboveAtMost_111 rfl ?_
          refine z_goto (tgt := 116) hX dX2_isAboveAtMost_112 (by decide) ?_
          refine z_zret hX hR dX2_isAboveAtMost_116 (by first | exact Or.inl rfl | exact Or.inr rfl | assumption) ?_
          exact absurd c_18 c_108
      · -- 18 f
        refine z_aload_n hX dX2_isAboveAtMost_21 rfl ?_
        refine z_iload hX dX2_isAboveAtMost_22 rfl ?_
        refine z_callV0 hX dX2_isAboveAtMost_24 mv_2_55 (c_X2_slotOf nu s0 s1 s2 gp f lt hlt h2 k (by omega)) (by decide) rfl rfl rfl rfl (Nat.le_of_ble_eq_true rfl) (fun r w1 hp _ => ?_)
        obtain ⟨rfl, rfl⟩ := hp
        have zsl := slF_lt lt k
        refine z_istore (ls' := [_, _, _, _, _, _, _, _, _, _, _, _]) hX dX2_isAboveAtMost_27 (Nat.le_of_ble_eq_true rfl) rfl ?_
        refine z_aload_n hX dX2_isAboveAtMost_29 rfl ?_
        refine z_get hX dX2_isAboveAtMost_30 f_2_20 rfl rfl ?_
        refine z_iload hX dX2_isAboveAtMost_33 rfl ?_
        refine z_zald hX dX2_isAboveAtMost_35 rfl (by omega) (by decide) ?_
        refine z_if_ne (tgt := 99) hX dX2_isAboveAtMost_36 (by decide) (fun c_36 => ?_) (fun c_36 => ?_)
        · -- 36 t
          rw [if_neg (fun q => c_36 q.1), Nat.add_zero] at ih2
          first | refine z_iincN (b := 1) (ls' := [_, _, _, _, _, _, _, _, _, _, _, _]) hX dX2_isAboveAtMost_99 rfl rfl rfl ?_ | refine z_iinc (ls' := [_, _, _, _, _, _, _, _, _, _, _, _]) hX dX2_isAboveAtMost_99 rfl rfl ?_
          refine z_goto (tgt := 6) hX dX2_isAboveAtMost_102 (by decide) ?_
          refine z_forget (ls' := [some (.ref 0), some _, some _, none, some _, some _, some _, some _, some _, none, none, none]) ⟨rfl, rfl, rfl, rfl, rfl, rfl, rfl, rfl, trivial⟩ ih2
        · -- 36 f
          refine z_aload_n hX dX2_isAboveAtMost_39 rfl ?_
          refine z_get hX dX2_isAboveAtMost_40 f_2_17 rfl rfl ?_
          refine z_iconst (v := nI 0) hX dX2_isAboveAtMost_43 rfl ?_
          first | refine z_aald hX dX2_isAboveAtMost_44 rfl (by decide) rfl (Nat.le_of_ble_eq_true rfl) ?_ | refine z_aaldA hX dX2_isAboveAtMost_44 rfl rfl (Nat.le_of_ble_eq_true rfl) ?_
          refine z_iload hX dX2_isAboveAtMost_45 rfl ?_
          refine z_lald hX dX2_isAboveAtMost_47 rfl (by omega) (by decide) ?_
          refine z_iload hX dX2_isAboveAtMost_48 rfl ?_
          refine z_i2l hX dX2_isAboveAtMost_50 ?_
          refine z_lmul hX dX2_isAboveAtMost_51 ?_
          refine z_aload_n hX dX2_isAboveAtMost_52 rfl ?_
          refine z_get hX dX2_isAboveAtMost_53 f_2_17 rfl rfl ?_
          refine z_iconst (v := nI 1) hX dX2_isAboveAtMost_56 rfl ?_
          first | refine z_aald hX dX2_isAboveAtMost_57 rfl (by decide) rfl (Nat.le_of_ble_eq_true rfl) ?_ | refine z_aaldA hX dX2_isAboveAtMost_57 rfl rfl (Nat.le_of_ble_eq_true rfl) ?_
          refine z_iload hX dX2_isAboveAtMost_58 rfl ?_
          refine z_lald hX dX2_isAboveAtMost_60 rfl (by omega) (by decide) ?_
          refine z_iload hX dX2_isAboveAtMost_61 rfl ?_
          refine z_i2l hX dX2_isAboveAtMost_63 ?_
          refine z_lmul hX dX2_isAboveAtMost_64 ?_
          refine z_ladd hX dX2_isAboveAtMost_65 ?_
          refine z_aload_n hX dX2_isAboveAtMost_66 rfl ?_
          refine z_get hX dX2_isAboveAtMost_67 f_2_17 rfl rfl ?_
          refine z_iconst (v := nI 2) hX dX2_isAboveAtMost_70 rfl ?_
          first | refine z_aald hX dX2_isAboveAtMost_71 rfl (by decide) rfl (Nat.le_of_ble_eq_true rfl) ?_ | refine z_aaldA hX dX2_isAboveAtMost_71 rfl rfl (Nat.le_of_ble_eq_true rfl) ?_
          refine z_iload hX dX2_isAboveAtMost_72 rfl ?_
          refine z_lald hX dX2_isAboveAtMost_74 rfl (by omega) (by decide) ?_
          refine z_iload hX dX2_isAboveAtMost_75 rfl ?_
          refine z_i2l hX dX2_isAboveAtMost_77 ?_
          refine z_lmul hX dX2_isAboveAtMost_78 ?_
          refine z_ladd hX dX2_isAboveAtMost_79 ?_
          refine z_lstore (ls' := [_, _, _, _, _, _, _, _, _, _, _, _]) hX dX2_isAboveAtMost_80 (Nat.le_of_ble_eq_true rfl) rfl ?_
          refine z_iload hX dX2_isAboveAtMost_82 rfl ?_
          refine z_lload hX dX2_isAboveAtMost_84 rfl ?_
          refine z_lload_n hX dX2_isAboveAtMost_86 rfl ?_
          refine z_lcmp hX dX2_isAboveAtMost_87 ?_
          refine z_lif_le (tgt := 95) hX dX2_isAboveAtMost_88 (by decide) (fun c_88 => ?_) (fun c_88 => ?_)
          · -- 88 t
            rw [if_neg (fun q => absurd q.2 (Int64.not_lt.mpr c_88))] at ih2
            refine z_iconst (v := nI 0) hX dX2_isAboveAtMost_95 rfl ?_
            first | with_reducible refine z_iaddN hX dX2_isAboveAtMost_96 ?_ | refine z_iadd hX dX2_isAboveAtMost_96 ?_
            refine z_istore (ls' := [_, _, _, _, _, _, _, _, _, _, _, _]) hX dX2_isAboveAtMost_97 (Nat.le_of_ble_eq_true rfl) rfl ?_
            first | refine z_iincN (b := 1) (ls' := [_, _, _, _, _, _, _, _, _, _, _, _]) hX dX2_isAboveAtMost_99 rfl rfl rfl ?_ | refine z_iinc (ls' := [_, _, _, _, _, _, _, _, _, _, _, _]) hX dX2_isAboveAtMost_99 rfl rfl ?_
            refine z_goto (tgt := 6) hX dX2_isAboveAtMost_102 (by decide) ?_
            refine z_forget (ls' := [some (.ref 0), some _, some _, none, some _, some _, some _, some _, some _, none, none, none]) ⟨rfl, rfl, rfl, rfl, rfl, rfl, rfl, rfl, trivial⟩ ih2
          · -- 88 f
            rw [if_pos ⟨c_36, c_88⟩] at ih2
            refine z_iconst (v := nI 1) hX dX2_isAboveAtMost_91 rfl ?_
            refine z_goto (tgt := 96) hX dX2_isAboveAtMost_92 (by decide) ?_
            first | with_reducible refine z_iaddN hX dX2_isAboveAtMost_96 ?_ | refine z_iadd hX dX2_isAboveAtMost_96 ?_
            refine z_istore (ls' := [_, _, _, _, _, _, _, _, _, _, _, _]) hX dX2_isAboveAtMost_97 (Nat.le_of_ble_eq_true rfl) rfl ?_
            first | refine z_iincN (b := 1) (ls' := [_, _, _, _, _, _, _, _, _, _, _, _]) hX dX2_isAboveAtMost_99 rfl rfl rfl ?_ | refine z_iinc (ls' := [_, _, _, _, _, _, _, _, _, _, _, _]) hX dX2_isAboveAtMost_99 rfl rfl ?_
            refine z_goto (tgt := 6) hX dX2_isAboveAtMost_102 (by decide) ?_
            refine z_forget (ls' := [some (.ref 0), some _, some _, none, some _, some _, some _, some _, some _, none, none, none]) ⟨rfl, rfl, rfl, rfl, rfl, rfl, rfl, rfl, trivial⟩ ih2
set_option maxHeartbeats 4000000 in
set_option maxRecDepth 100000 in
theorem c_X2_isAboveAtMost (nu s0 s1 s2 : Nat → Int64) (gp f : Nat → Int32) (lt : Nat) (hlt : lt < 100) (h2 : f 2 = nI lt) (cn : Nat) (hcn : cn ≤ 100) (h1 : f 1 = nI cn) (mo : Int32) (bd : Int64) (l0 l1 l2 : Int32) : ∀ l, ZC l yX2_isAboveAtMost cX2_isAboveAtMost 12 (some .boolean) 1 [.ref 0, .int mo, .long bd, .int l0, .int l1, .int l2] (WLg nu s0 s1 s2 gp f []) (fun r w' => w' = WLg nu s0 s1 s2 gp f [] ∧ ((nI (aaF s0 s1 s2 gp lt bd l0 l1 l2 cn) ≤ mo ∧ r = some (.int (nI 1))) ∨ (¬ nI (aaF s0 s1 s2 gp lt bd l0 l1 l2 cn) ≤ mo ∧ r = some (.int (nI 0))))) := by
  intro l
  refine zc_intro (oc := 2) (by decide +kernel) rfl (Nat.le_of_ble_eq_true rfl) ?_
  intro X hX hR
  refine z_norm (ls' := [_, _, _, _, _, _, _, _, _, _, _, _]) rfl rfl rfl ?_
  refine z_iconst (v := nI 0) hX dX2_isAboveAtMost_0 rfl ?_
  refine z_istore (ls' := [_, _, _, _, _, _, _, _, _, _, _, _]) hX dX2_isAboveAtMost_1 (Nat.le_of_ble_eq_true rfl) rfl ?_
  refine z_iconst (v := nI 0) hX dX2_isAboveAtMost_3 rfl ?_
  refine z_istore (ls' := [_, _, _, _, _, _, _, _, _, _, _, _]) hX dX2_isAboveAtMost_4 (Nat.le_of_ble_eq_true rfl) rfl ?_
  exact lp_aa_6 hX hR nu s0 s1 s2 gp f lt hlt h2 cn hcn h1 mo bd l0 l1 l2 (fun e => ⟨rfl, Or.inl ⟨e, rfl⟩⟩) (fun e => ⟨rfl, Or.inr ⟨e, rfl⟩⟩) (cn + 1) 0 (by omega) (by omega)
def WS3 (rt : Nat → Nat → Int32) (pl bf : Nat → Nat → Int64) (hm : Nat → Int32) (g : Nat → Nat → Int64) : ZW := [.inr (101, [.ref 8, .ref 12, .ref 16]), .inr (4, [.ref 9, .ref 10, .ref 11, .int (hm 0), .long (g 0 0), .long (g 0 1), .long (g 0 2)]), .inl (0, 24, .inl (rt 0)), .inl (1, 10, .inr (pl 0)), .inl (1, 10, .inr (bf 0)), .inr (4, [.ref 13, .ref 14, .ref 15, .int (hm 1), .long (g 1 0), .long (g 1 1), .long (g 1 2)]), .inl (0, 24, .inl (rt 1)), .inl (1, 10, .inr (pl 1)), .inl (1, 10, .inr (bf 1)), .inr (4, [.ref 17, .ref 18, .ref 19, .int (hm 2), .long (g 2 0), .long (g 2 1), .long (g 2 2)]), .inl (0, 24, .inl (rt 2)), .inl (1, 10, .inr (pl 2)), .inl (1, 10, .inr (bf 2))]
set_option maxHeartbeats 4000000 in
set_option maxRecDepth 100000 in
theorem c_X2_write (nu s0 s1 s2 : Nat → Int64) (gp f : Nat → Int32) (lt : Nat) (hlt : lt < 100) (h2 : f 2 = nI lt) (cn : Nat) (hcn : cn ≤ 100) (h1 : f 1 = nI cn) (bx : Nat) (hbx : bx < 9) (h0 : f 0 = nI bx) (h3 : f 3 = 0 ∨ f 3 = 1) (rt : Nat → Nat → Int32) (pl bf : Nat → Nat → Int64) (hm : Nat → Int32) (g : Nat → Nat → Int64) : ∀ l, ZC l yX2_write cX2_write 5 none 1 [.ref 0, .ref 7] (WLg nu s0 s1 s2 gp f (WS3 rt pl bf hm g)) (fun r w' => r = none ∧ w' = WLg (vp_updL (vp_updL (vp_updL (vp_updL nu ((lt + 1) % 100) 0) ((lt + 1) % 100) (0 + pl 0 bx)) ((lt + 1) % 100) (0 + pl 0 bx + pl 1 bx)) ((lt + 1) % 100) (0 + pl 0 bx + pl 1 bx + pl 2 bx)) (vp_updL s0 ((lt + 1) % 100) (pl 0 bx)) (vp_updL s1 ((lt + 1) % 100) (pl 1 bx)) (vp_updL s2 ((lt + 1) % 100) (pl 2 bx)) (upd gp ((lt + 1) % 100) (f 3)) (va_up (va_up f 2 (nI ((lt + 1) % 100))) 1 (nI (if cn + 1 ≤ 100 then cn + 1 else 100))) (WS3 rt pl bf hm g)) := by
  intro l
  refine zc_intro (oc := 2) (by decide +kernel) rfl (Nat.le_of_ble_eq_true rfl) ?_
  intro X hX hR
  refine z_norm (ls' := [_, _, _, _, _]) rfl rfl rfl ?_
  refine z_aload_n hX dX2_write_0 rfl ?_
  refine z_aload_n hX dX2_write_1 rfl ?_
  refine z_get hX dX2_write_2 f_2_31 rfl rfl ?_
  refine z_top h2 ?_
  refine z_iconst (v := nI 1) hX dX2_write_5 rfl ?_
  first | with_reducible refine z_iaddN hX dX2_write_6 ?_ | refine z_iadd hX dX2_write_6 ?_
  refine z_bipush (v := nI 100) hX dX2_write_7 rfl ?_
  first | with_reducible refine z_iremN hX dX2_write_9 (by omega) (by decide) (by decide) ?_ | refine z_irem hX dX2_write_9 (by decide) ?_
  refine z_puti (fs' := [_, _, _, _, _, _, _, _]) (w' := [_, _, _, _, _, _, _, _, _, _, _, _, _, _, _, _, _, _, _, _]) hX dX2_write_10 p_2_31 rfl (Nat.le_of_ble_eq_true rfl) rfl rfl ?_
  refine z_aload_n hX dX2_write_13 rfl ?_
  refine z_aload_n hX dX2_write_14 rfl ?_
  refine z_get hX dX2_write_15 f_2_28 rfl rfl ?_
  refine z_top h1 ?_
  refine z_iconst (v := nI 1) hX dX2_write_18 rfl ?_
  first | with_reducible refine z_iaddN hX dX2_write_19 ?_ | refine z_iadd hX dX2_write_19 ?_
  refine z_bipush (v := nI 100) hX dX2_write_20 rfl ?_
  refine z_callS0 hX dX2_write_22 ms_2_41 (c_J_min _ _ (by omega) (by omega) _) (by decide) rfl rfl (Nat.le_of_ble_eq_true rfl) (fun r w1 hp _ => ?_)
  obtain ⟨rfl, rfl⟩ := hp
  refine z_puti (fs' := [_, _, _, _, _, _, _, _]) (w' := [_, _, _, _, _, _, _, _, _, _, _, _, _, _, _, _, _, _, _, _]) hX dX2_write_25 p_2_28 rfl (Nat.le_of_ble_eq_true rfl) rfl rfl ?_
  refine z_aload_n hX dX2_write_28 rfl ?_
  refine z_get hX dX2_write_29 f_2_20 rfl rfl ?_
  refine z_aload_n hX dX2_write_32 rfl ?_
  refine z_get hX dX2_write_33 f_2_31 rfl rfl ?_
  refine z_aload_n hX dX2_write_36 rfl ?_
  refine z_get hX dX2_write_37 f_2_34 rfl rfl ?_
  refine z_zast (w' := [_, _, _, _, _, _, _, _, _, _, _, _, _, _, _, _, _, _, _, _]) hX dX2_write_40 rfl (by omega) (by decide) h3 rfl ?_
  refine z_aload_n hX dX2_write_41 rfl ?_
  refine z_get hX dX2_write_42 f_2_9 rfl rfl ?_
  refine z_aload_n hX dX2_write_45 rfl ?_
  refine z_get hX dX2_write_46 f_2_31 rfl rfl ?_
  refine z_lconst (v := 0) hX dX2_write_49 rfl ?_
  refine z_last (w' := [_, _, _, _, _, _, _, _, _, _, _, _, _, _, _, _, _, _, _, _]) hX dX2_write_50 rfl (by omega) (by decide) rfl ?_
  refine z_iconst (v := nI 0) hX dX2_write_51 rfl ?_
  refine z_istore_n (ls' := [_, _, _, _, _]) hX dX2_write_52 (Nat.le_of_ble_eq_true rfl) rfl ?_
  refine z_iload_n hX dX2_write_53 rfl ?_
  refine z_iconst (v := nI 3) hX dX2_write_54 rfl ?_
  refine z_icmp_geN (tgt := 101) hX dX2_write_55 (by decide) (by omega) (by omega) (fun c => absurd c (by omega)) (fun _ => ?_)
  refine z_aload_n hX dX2_write_58 rfl ?_
  refine z_iload_n hX dX2_write_59 rfl ?_
  first | refine z_aald hX dX2_write_60 rfl (by decide) rfl (Nat.le_of_ble_eq_true rfl) ?_ | refine z_aaldA hX dX2_write_60 rfl rfl (Nat.le_of_ble_eq_true rfl) ?_
  refine z_get hX dX2_write_61 f_2_47 rfl rfl ?_
  refine z_aload_n hX dX2_write_64 rfl ?_
  refine z_get hX dX2_write_65 f_2_24 rfl rfl ?_
  refine z_top h0 ?_
  refine z_lald hX dX2_write_68 rfl (by omega) (by decide) ?_
  refine z_lstore_n (ls' := [_, _, _, _, _]) hX dX2_write_69 (Nat.le_of_ble_eq_true rfl) rfl ?_
  refine z_aload_n hX dX2_write_70 rfl ?_
  refine z_get hX dX2_write_71 f_2_17 rfl rfl ?_
  refine z_iload_n hX dX2_write_74 rfl ?_
  first | refine z_aald hX dX2_write_75 rfl (by decide) rfl (Nat.le_of_ble_eq_true rfl) ?_ | refine z_aaldA hX dX2_write_75 rfl rfl (Nat.le_of_ble_eq_true rfl) ?_
  refine z_aload_n hX dX2_write_76 rfl ?_
  refine z_get hX dX2_write_77 f_2_31 rfl rfl ?_
  refine z_lload_n hX dX2_write_80 rfl ?_
  refine z_last (w' := [_, _, _, _, _, _, _, _, _, _, _, _, _, _, _, _, _, _, _, _]) hX dX2_write_81 rfl (by omega) (by decide) rfl ?_
  refine z_aload_n hX dX2_write_82 rfl ?_
  refine z_get hX dX2_write_83 f_2_9 rfl rfl ?_
  refine z_aload_n hX dX2_write_86 rfl ?_
  refine z_get hX dX2_write_87 f_2_31 rfl rfl ?_
  first | refine z_dup2_2 hX dX2_write_90 rfl ?_ | refine z_dup2_11 hX dX2_write_90 rfl rfl ?_
  refine z_lald hX dX2_write_91 rfl (by omega) (by decide) ?_
  refine z_topl pk_uLs ?_
  refine z_lload_n hX dX2_write_92 rfl ?_
  refine z_ladd hX dX2_write_93 ?_
  refine z_last (w' := [_, _, _, _, _, _, _, _, _, _, _, _, _, _, _, _, _, _, _, _]) hX dX2_write_94 rfl (by omega) (by decide) rfl ?_
  first | refine z_iincN (b := 1) (ls' := [_, _, _, _, _]) hX dX2_write_95 rfl rfl rfl ?_ | refine z_iinc (ls' := [_, _, _, _, _]) hX dX2_write_95 rfl rfl ?_
  refine z_goto (tgt := 53) hX dX2_write_98 (by decide) ?_
  refine z_iload_n hX dX2_write_53 rfl ?_
  refine z_iconst (v := nI 3) hX dX2_write_54 rfl ?_
  refine z_icmp_geN (tgt := 101) hX dX2_write_55 (by decide) (by omega) (by omega) (fun c => absurd c (by omega)) (fun _ => ?_)
  refine z_aload_n hX dX2_write_58 rfl ?_
  refine z_iload_n hX dX2_write_59 rfl ?_
  first | refine z_aald hX dX2_write_60 rfl (by decide) rfl (Nat.le_of_ble_eq_true rfl) ?_ | refine z_aaldA hX dX2_write_60 rfl rfl (Nat.le_of_ble_eq_true rfl) ?_
  refine z_get hX dX2_write_61 f_2_47 rfl rfl ?_
  refine z_aload_n hX dX2_write_64 rfl ?_
  refine z_get hX dX2_write_65 f_2_24 rfl rfl ?_
  refine z_top h0 ?_
  refine z_lald hX dX2_write_68 rfl (by omega) (by decide) ?_
  refine z_lstore_n (ls' := [_, _, _, _, _]) hX dX2_write_69 (Nat.le_of_ble_eq_true rfl) rfl ?_
  refine z_aload_n hX dX2_write_70 rfl ?_
  refine z_get hX dX2_write_71 f_2_17 rfl rfl ?_
  refine z_iload_n hX dX2_write_74 rfl ?_
  first | refine z_aald hX dX2_write_75 rfl (by decide) rfl (Nat.le_of_ble_eq_true rfl) ?_ | refine z_aaldA hX dX2_write_75 rfl rfl (Nat.le_of_ble_eq_true rfl) ?_
  refine z_aload_n hX dX2_write_76 rfl ?_
  refine z_get hX dX2_write_77 f_2_31 rfl rfl ?_
  refine z_lload_n hX dX2_write_80 rfl ?_
  refine z_last (w' := [_, _, _, _, _, _, _, _, _, _, _, _, _, _, _, _, _, _, _, _]) hX dX2_write_81 rfl (by omega) (by decide) rfl ?_
  refine z_aload_n hX dX2_write_82 rfl ?_
  refine z_get hX dX2_write_83 f_2_9 rfl rfl ?_
  refine z_aload_n hX dX2_write_86 rfl ?_
  refine z_get hX dX2_write_87 f_2_31 rfl rfl ?_
  first | refine z_dup2_2 hX dX2_write_90 rfl ?_ | refine z_dup2_11 hX dX2_write_90 rfl rfl ?_
  refine z_lald hX dX2_write_91 rfl (by omega) (by decide) ?_
  refine z_topl pk_uLs ?_
  refine z_lload_n hX dX2_write_92 rfl ?_
  refine z_ladd hX dX2_write_93 ?_
  refine z_last (w' := [_, _, _, _, _, _, _, _, _, _, _, _, _, _, _, _, _, _, _, _]) hX dX2_write_94 rfl (by omega) (by decide) rfl ?_
  first | refine z_iincN (b := 1) (ls' := [_, _, _, _, _]) hX dX2_write_95 rfl rfl rfl ?_ | refine z_iinc (ls' := [_, _, _, _, _]) hX dX2_write_95 rfl rfl ?_
  refine z_goto (tgt := 53) hX dX2_write_98 (by decide) ?_
  refine z_iload_n hX dX2_write_53 rfl ?_
  refine z_iconst (v := nI 3) hX dX2_write_54 rfl ?_
  refine z_icmp_geN (tgt := 101) hX dX2_write_55 (by decide) (by omega) (by omega) (fun c => absurd c (by omega)) (fun _ => ?_)
  refine z_aload_n hX dX2_write_58 rfl ?_
  refine z_iload_n hX dX2_write_59 rfl ?_
  first | refine z_aald hX dX2_write_60 rfl (by decide) rfl (Nat.le_of_ble_eq_true rfl) ?_ | refine z_aaldA hX dX2_write_60 rfl rfl (Nat.le_of_ble_eq_true rfl) ?_
  refine z_get hX dX2_write_61 f_2_47 rfl rfl ?_
  refine z_aload_n hX dX2_write_64 rfl ?_
  refine z_get hX dX2_write_65 f_2_24 rfl rfl ?_
  refine z_top h0 ?_
  refine z_lald hX dX2_write_68 rfl (by omega) (by decide) ?_
  refine z_lstore_n (ls' := [_, _, _, _, _]) hX dX2_write_69 (Nat.le_of_ble_eq_true rfl) rfl ?_
  refine z_aload_n hX dX2_write_70 rfl ?_
  refine z_get hX dX2_write_71 f_2_17 rfl rfl ?_
  refine z_iload_n hX dX2_write_74 rfl ?_
  first | refine z_aald hX dX2_write_75 rfl (by decide) rfl (Nat.le_of_ble_eq_true rfl) ?_ | refine z_aaldA hX dX2_write_75 rfl rfl (Nat.le_of_ble_eq_true rfl) ?_
  refine z_aload_n hX dX2_write_76 rfl ?_
  refine z_get hX dX2_write_77 f_2_31 rfl rfl ?_
  refine z_lload_n hX dX2_write_80 rfl ?_
  refine z_last (w' := [_, _, _, _, _, _, _, _, _, _, _, _, _, _, _, _, _, _, _, _]) hX dX2_write_81 rfl (by omega) (by decide) rfl ?_
  refine z_aload_n hX dX2_write_82 rfl ?_
  refine z_get hX dX2_write_83 f_2_9 rfl rfl ?_
  refine z_aload_n hX dX2_write_86 rfl ?_
  refine z_get hX dX2_write_87 f_2_31 rfl rfl ?_
  first | refine z_dup2_2 hX dX2_write_90 rfl ?_ | refine z_dup2_11 hX dX2_write_90 rfl rfl ?_
  refine z_lald hX dX2_write_91 rfl (by omega) (by decide) ?_
  refine z_topl pk_uLs ?_
  refine z_lload_n hX dX2_write_92 rfl ?_
  refine z_ladd hX dX2_write_93 ?_
  refine z_last (w' := [_, _, _, _, _, _, _, _, _, _, _, _, _, _, _, _, _, _, _, _]) hX dX2_write_94 rfl (by omega) (by decide) rfl ?_
  first | refine z_iincN (b := 1) (ls' := [_, _, _, _, _]) hX dX2_write_95 rfl rfl rfl ?_ | refine z_iinc (ls' := [_, _, _, _, _]) hX dX2_write_95 rfl rfl ?_
  refine z_goto (tgt := 53) hX dX2_write_98 (by decide) ?_
  refine z_iload_n hX dX2_write_53 rfl ?_
  refine z_iconst (v := nI 3) hX dX2_write_54 rfl ?_
  refine z_icmp_geN (tgt := 101) hX dX2_write_55 (by decide) (by omega) (by omega) (fun _ => ?_) (fun c => absurd c (by omega))
  refine z_vret hX hR dX2_write_101 ?_
  exact ⟨rfl, rfl⟩
