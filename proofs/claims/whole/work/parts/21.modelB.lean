/-! ===== the reference: what a box gives, heights, the still net ===== -/
def zJ (x : Int32) (n : Nat) : Prop := ∃ j : Nat, j < n ∧ x = nI j
theorem zJ_iff {x : Int32} {n : Nat} (hn : n < 2147483648) : zJ x n ↔ 0 ≤ x.toInt ∧ x.toInt < n := by
  constructor
  · rintro ⟨j, hj, rfl⟩
    rw [nI_toInt (by omega)]
    omega
  · rintro ⟨h1, h2⟩
    refine ⟨x.toInt.toNat, by omega, ?_⟩
    rw [← Int32.toInt_inj, nI_toInt (by omega)]
    omega
theorem zJ_nI {a n : Nat} (ha : a < 2147483648) (hn : n < 2147483648) : zJ (nI a) n ↔ a < n := by
  rw [zJ_iff hn, nI_toInt ha]
  omega
theorem zinJ {x : Int32} {hi : Int64} {n : Nat} {r : Option Value} (e : hi.toInt + 1 = n) (hn : n < 2147483648) (hp : (0 ≤ x.toInt64 ∧ x.toInt64 ≤ hi ∧ r = some (.int (nI 1))) ∨ (¬ (0 ≤ x.toInt64 ∧ x.toInt64 ≤ hi) ∧ r = some (.int (nI 0)))) : (zJ x n ∧ r = some (.int (nI 1))) ∨ (¬ zJ x n ∧ r = some (.int (nI 0))) := by
  have h0 : (0 : Int64).toInt = 0 := rfl
  have key : (0 ≤ x.toInt64 ∧ x.toInt64 ≤ hi) ↔ zJ x n := by
    rw [zJ_iff hn, Int64.le_iff_toInt_le, Int64.le_iff_toInt_le, Int32.toInt_toInt64, h0]
    omega
  rcases hp with ⟨h1, h2, h3⟩ | ⟨h1, h3⟩
  · exact Or.inl ⟨key.mp ⟨h1, h2⟩, h3⟩
  · exact Or.inr ⟨fun q => h1 (key.mpr q), h3⟩
def zfold {α : Type} (f : Nat → α → α) : Nat → α → α
  | 0, x => x
  | n + 1, x => f n (zfold f n x)
theorem zFROM_le (k : Nat) : zFROM.getD k 0 ≤ 9 := by
  by_cases h : k < 24
  · exact (by decide +kernel : ∀ k, k < 24 → zFROM.getD k 0 ≤ 9) k h
  · rw [List.getD_eq_getElem?_getD, List.getElem?_eq_none (by show 24 ≤ k; omega)]
    exact Nat.zero_le _
theorem zTO_le (k : Nat) : zTO.getD k 0 ≤ 9 := by
  by_cases h : k < 24
  · exact (by decide +kernel : ∀ k, k < 24 → zTO.getD k 0 ≤ 9) k h
  · rw [List.getD_eq_getElem?_getD, List.getElem?_eq_none (by show 24 ≤ k; omega)]
    exact Nat.zero_le _
def giveT (wn : Nat → Int32) (box k : Nat) : Int32 := if zFROM.getD k 0 = box then wn k else if zTO.getD k 0 = box then -(wn k) else nI 0
def giveF (wn : Nat → Int32) (box : Nat) (n : Nat) : Int32 := zfold (fun k s => s + giveT wn box k) n (nI 0)
theorem giveF_s (wn : Nat → Int32) (box n : Nat) : giveF wn box (n + 1) = giveF wn box n + giveT wn box n := rfl
set_option maxHeartbeats 4000000 in
set_option maxRecDepth 100000 in
theorem lp_X6_given_4 {X : ZX} {post : Option Value → ZW → Prop} (hX : ZOK X 6 cX6_given 3) (hR : ZRet X (some .int) post) (a : Nat → Nat → Int32) (b : Nat → Nat → Int64) (c : Nat → Int32) (box : Nat) (hb : box < 9) (hpost : post (some (.int (giveF (a 1) box 24))) (WM a b c)) : ∀ (n k : Nat), k ≤ 24 → 24 < k + n → ZG X 4 [some (.ref 0), some (.int (nI box)), some (.int (giveF (a 1) box k)), some (.int (nI k))] [] (WM a b c) := by
  intro n
  induction n with
  | zero => intro k h1 h2; omega
  | succ n ih =>
    intro k hk1 hk2
    refine z_iload_n hX dX6_given_4 rfl ?_
    refine z_bipush (v := nI 24) hX dX6_given_5 rfl ?_
    first | with_reducible refine z_icmp_geN (tgt := 55) hX dX6_given_7 (by decide) (by omega) (by omega) (fun c_7 => ?_) (fun c_7 => ?_) | refine z_icmp_ge (tgt := 55) hX dX6_given_7 (by decide) (fun c_7 => ?_) (fun c_7 => ?_)
    · -- 7 t
      have zk : k = 24 := by omega
      subst zk
      refine z_iload_n hX dX6_given_55 rfl ?_
      refine z_iret hX hR dX6_given_56 ?_
      exact hpost
    · -- 7 f
      have ih2 := ih (k + 1) (by omega) (by omega)
      rw [giveF_s] at ih2
      unfold giveT at ih2
      have hF := zFROM_le k
      have hT := zTO_le k
      refine z_iload_n hX dX6_given_10 rfl ?_
      refine z_iload_n hX dX6_given_11 rfl ?_
      refine z_callS0 hX dX6_given_12 ms_6_85 (c_X6_fromOf k (by omega) _) (by decide) rfl rfl (Nat.le_of_ble_eq_true rfl) (fun r w1 hp _ => ?_)
      obtain ⟨rfl, rfl⟩ := hp
      refine z_iload_n hX dX6_given_15 rfl ?_
      first | with_reducible refine z_icmp_neN (tgt := 28) hX dX6_given_16 (by decide) (by omega) (by omega) (fun c_16 => ?_) (fun c_16 => ?_) | refine z_icmp_ne (tgt := 28) hX dX6_given_16 (by decide) (fun c_16 => ?_) (fun c_16 => ?_)
      · -- 16 t
        refine z_iload_n hX dX6_given_28 rfl ?_
        refine z_callS0 hX dX6_given_29 ms_6_89 (c_X6_toOf k (by omega) _) (by decide) rfl rfl (Nat.le_of_ble_eq_true rfl) (fun r w1 hp _ => ?_)
        obtain ⟨rfl, rfl⟩ := hp
        refine z_iload_n hX dX6_given_32 rfl ?_
        first | with_reducible refine z_icmp_neN (tgt := 46) hX dX6_given_33 (by decide) (by omega) (by omega) (fun c_33 => ?_) (fun c_33 => ?_) | refine z_icmp_ne (tgt := 46) hX dX6_given_33 (by decide) (fun c_33 => ?_) (fun c_33 => ?_)
        · -- 33 t
          refine z_iconst (v := nI 0) hX dX6_given_46 rfl ?_
          first | with_reducible refine z_iaddN hX dX6_given_47 ?_ | refine z_iadd hX dX6_given_47 ?_
          refine z_istore_n (ls' := [_, _, _, _]) hX dX6_given_48 (Nat.le_of_ble_eq_true rfl) rfl ?_
          first | refine z_iincN (b := 1) (ls' := [_, _, _, _]) hX dX6_given_49 rfl rfl rfl ?_ | refine z_iinc (ls' := [_, _, _, _]) hX dX6_given_49 rfl rfl ?_
          refine z_goto (tgt := 4) hX dX6_given_52 (by decide) ?_
          first | (rw [if_pos c_16] at ih2; exact ih2) | (rw [if_neg c_16, if_pos c_33] at ih2; exact ih2) | (rw [if_neg c_16, if_neg c_33] at ih2; exact ih2)
        · -- 33 f
          refine z_aload_n hX dX6_given_36 rfl ?_
          refine z_get hX dX6_given_37 f_6_7 rfl rfl ?_
          refine z_iload_n hX dX6_given_40 rfl ?_
          first | refine z_iald hX dX6_given_41 rfl (by omega) (by decide) ?_ | refine z_stld (nm := "FROM") (xs := zFROM) hX dX6_given_41 (fun _ _ _ _ h => h.1) (by show _ < 24; omega) (by decide) ?_ | refine z_stld (nm := "TO") (xs := zTO) hX dX6_given_41 (fun _ _ _ _ h => h.2.1) (by show _ < 24; omega) (by decide) ?_ | refine z_stld (nm := "FALL") (xs := zFALL) hX dX6_given_41 (fun _ _ _ _ h => h.2.2.1) (by show _ < 81; omega) (by decide) ?_
          refine z_ineg hX dX6_given_42 ?_
          refine z_goto (tgt := 47) hX dX6_given_43 (by decide) ?_
          first | with_reducible refine z_iaddN hX dX6_given_47 ?_ | refine z_iadd hX dX6_given_47 ?_
          refine z_istore_n (ls' := [_, _, _, _]) hX dX6_given_48 (Nat.le_of_ble_eq_true rfl) rfl ?_
          first | refine z_iincN (b := 1) (ls' := [_, _, _, _]) hX dX6_given_49 rfl rfl rfl ?_ | refine z_iinc (ls' := [_, _, _, _]) hX dX6_given_49 rfl rfl ?_
          refine z_goto (tgt := 4) hX dX6_given_52 (by decide) ?_
          first | (rw [if_pos c_16] at ih2; exact ih2) | (rw [if_neg c_16, if_pos c_33] at ih2; exact ih2) | (rw [if_neg c_16, if_neg c_33] at ih2; exact ih2)
      · -- 16 f
        refine z_aload_n hX dX6_given_19 rfl ?_
        refine z_get hX dX6_given_20 f_6_7 rfl rfl ?_
        refine z_iload_n hX dX6_given_23 rfl ?_
        first | refine z_iald hX dX6_given_24 rfl (by omega) (by decide) ?_ | refine z_stld (nm := "FROM") (xs := zFROM) hX dX6_given_24 (fun _ _ _ _ h => h.1) (by show _ < 24; omega) (by decide) ?_ | refine z_stld (nm := "TO") (xs := zTO) hX dX6_given_24 (fun _ _ _ _ h => h.2.1) (by show _ < 24; omega) (by decide) ?_ | refine z_stld (nm := "FALL") (xs := zFALL) hX dX6_given_24 (fun _ _ _ _ h => h.2.2.1) (by show _ < 81; omega) (by decide) ?_
        refine z_goto (tgt := 47) hX dX6_given_25 (by decide) ?_
        first | with_reducible refine z_iaddN hX dX6_given_47 ?_ | refine z_iadd hX dX6_given_47 ?_
        refine z_istore_n (ls' := [_, _, _, _]) hX dX6_given_48 (Nat.le_of_ble_eq_true rfl) rfl ?_
        first | refine z_iincN (b := 1) (ls' := [_, _, _, _]) hX dX6_given_49 rfl rfl rfl ?_ | refine z_iinc (ls' := [_, _, _, _]) hX dX6_given_49 rfl rfl ?_
        refine z_goto (tgt := 4) hX dX6_given_52 (by decide) ?_
        first | (rw [if_pos c_16] at ih2; exact ih2) | (rw [if_neg c_16, if_pos c_33] at ih2; exact ih2) | (rw [if_neg c_16, if_neg c_33] at ih2; exact ih2)
set_option maxHeartbeats 4000000 in
set_option maxRecDepth 100000 in
theorem c_X6_given (a : Nat → Nat → Int32) (b : Nat → Nat → Int64) (c : Nat → Int32) (box : Nat) (hb : box < 9) : ∀ l, ZC l yX6_given cX6_given 4 (some .int) 3 [.ref 0, .int (nI box)] (WM a b c) (fun r w' => w' = WM a b c ∧ r = some (.int (giveF (a 1) box 24))) := by
  intro l
  refine zc_intro (oc := 6) (by decide +kernel) rfl (Nat.le_of_ble_eq_true rfl) ?_
  intro X hX hR
  refine z_norm (ls' := [_, _, _, _]) rfl rfl rfl ?_
  refine z_iconst (v := nI 0) hX dX6_given_0 rfl ?_
  refine z_istore_n (ls' := [_, _, _, _]) hX dX6_given_1 (Nat.le_of_ble_eq_true rfl) rfl ?_
  refine z_iconst (v := nI 0) hX dX6_given_2 rfl ?_
  refine z_istore_n (ls' := [_, _, _, _]) hX dX6_given_3 (Nat.le_of_ble_eq_true rfl) rfl ?_
  exact lp_X6_given_4 hX hR a b c box hb ⟨rfl, rfl⟩ 25 0 (by omega) (by omega)
def zB (x : Int32) (lo hi : Int) : Prop := lo ≤ x.toInt ∧ x.toInt ≤ hi
theorem zinB {x : Int32} {lo hi : Int64} {r : Option Value} {a b : Int} (e1 : lo.toInt = a) (e2 : hi.toInt = b) (hp : (lo ≤ x.toInt64 ∧ x.toInt64 ≤ hi ∧ r = some (.int (nI 1))) ∨ (¬ (lo ≤ x.toInt64 ∧ x.toInt64 ≤ hi) ∧ r = some (.int (nI 0)))) : (zB x a b ∧ r = some (.int (nI 1))) ∨ (¬ zB x a b ∧ r = some (.int (nI 0))) := by
  have key : (lo ≤ x.toInt64 ∧ x.toInt64 ≤ hi) ↔ zB x a b := by
    unfold zB
    rw [Int64.le_iff_toInt_le, Int64.le_iff_toInt_le, Int32.toInt_toInt64, e1, e2]
  rcases hp with ⟨h1, h2, h3⟩ | ⟨h1, h3⟩
  · exact Or.inl ⟨key.mp ⟨h1, h2⟩, h3⟩
  · exact Or.inr ⟨fun q => h1 (key.mpr q), h3⟩
set_option maxHeartbeats 4000000 in
set_option maxRecDepth 100000 in
theorem c_X6_wind (a : Nat → Nat → Int32) (b : Nat → Nat → Int64) (c : Nat → Int32) (x y : Int32) : ∀ l, ZC l yX6_wind cX6_wind 4 (some .int) 1 [.ref 0, .int x, .int y] (WM a b c) (fun r w' => (¬ (zJ x 24 ∧ zB y (-100) 100) ∧ r = some (.int (-1001)) ∧ w' = WM a b c) ∨ ∃ j, j < 24 ∧ x = nI j ∧ zB y (-100) 100 ∧ r = some (.int (a 1 j)) ∧ w' = WM (va_up a 1 (upd (a 1) j y)) b c) := by
  intro l
  refine zc_intro (oc := 6) (by decide +kernel) rfl (Nat.le_of_ble_eq_true rfl) ?_
  intro X hX hR
  refine z_norm (ls' := [_, _, _, _]) rfl rfl rfl ?_
  refine z_iload_n hX dX6_wind_0 rfl ?_
  first | with_reducible refine z_i2lN hX dX6_wind_1 (by omega) ?_ | refine z_i2l hX dX6_wind_1 ?_
  refine z_lconst (v := 0) hX dX6_wind_2 rfl ?_
  refine z_ldc2 hX dX6_wind_3 k_6_69 ?_
  refine z_callS0 hX dX6_wind_6 ms_6_71 (c_X6_in _ _ _ _) (by decide) rfl rfl (Nat.le_of_ble_eq_true rfl) (fun r w1 hp _ => ?_)
  obtain ⟨rfl, hp⟩ := hp
  rcases zinJ (n := 24) rfl (by decide) hp with ⟨⟨j, hj, rfl⟩, rfl⟩ | ⟨hn, rfl⟩
  · -- 6 T
    refine z_if_eq (tgt := 26) hX dX6_wind_9 (by decide) (fun c => absurd c (by decide)) (fun _ => ?_)
    refine z_iload_n hX dX6_wind_12 rfl ?_
    first | with_reducible refine z_i2lN hX dX6_wind_13 (by omega) ?_ | refine z_i2l hX dX6_wind_13 ?_
    refine z_ldc2 hX dX6_wind_14 k_6_75 ?_
    refine z_ldc2 hX dX6_wind_17 k_6_77 ?_
    refine z_callS0 hX dX6_wind_20 ms_6_71 (c_X6_in _ _ _ _) (by decide) rfl rfl (Nat.le_of_ble_eq_true rfl) (fun r w1 hp _ => ?_)
    obtain ⟨rfl, hp⟩ := hp
    rcases zinB (a := -100) (b := 100) rfl rfl hp with ⟨hB, rfl⟩ | ⟨hnB, rfl⟩
    · -- 20 T
      refine z_if_ne (tgt := 30) hX dX6_wind_23 (by decide) (fun _ => ?_) (fun c => absurd c (by decide))
      refine z_aload_n hX dX6_wind_30 rfl ?_
      refine z_get hX dX6_wind_31 f_6_7 rfl rfl ?_
      refine z_iload_n hX dX6_wind_34 rfl ?_
      first | refine z_iald hX dX6_wind_35 rfl (by omega) (by decide) ?_ | refine z_stld (nm := "FROM") (xs := zFROM) hX dX6_wind_35 (fun _ _ _ _ h => h.1) (by show _ < 24; omega) (by decide) ?_ | refine z_stld (nm := "TO") (xs := zTO) hX dX6_wind_35 (fun _ _ _ _ h => h.2.1) (by show _ < 24; omega) (by decide) ?_ | refine z_stld (nm := "FALL") (xs := zFALL) hX dX6_wind_35 (fun _ _ _ _ h => h.2.2.1) (by show _ < 81; omega) (by decide) ?_
      refine z_istore_n (ls' := [_, _, _, _]) hX dX6_wind_36 (Nat.le_of_ble_eq_true rfl) rfl ?_
      refine z_aload_n hX dX6_wind_37 rfl ?_
      refine z_get hX dX6_wind_38 f_6_7 rfl rfl ?_
      refine z_iload_n hX dX6_wind_41 rfl ?_
      refine z_iload_n hX dX6_wind_42 rfl ?_
      refine z_iast (w' := [_, _, _, _, _, _, _, _, _, _, _, _, _, _, _, _, _, _, _, _]) hX dX6_wind_43 rfl (by omega) (by decide) rfl ?_
      refine z_iload_n hX dX6_wind_44 rfl ?_
      refine z_iret hX hR dX6_wind_45 ?_
      first | exact Or.inl ⟨fun q => hn q.1, rfl, rfl⟩ | exact Or.inl ⟨fun q => hnB q.2, rfl, rfl⟩ | exact Or.inr ⟨j, hj, rfl, hB, rfl, rfl⟩
    · -- 20 F
      refine z_if_ne (tgt := 30) hX dX6_wind_23 (by decide) (fun c => absurd c (by decide)) (fun _ => ?_)
      refine z_sipush (v := -1001) hX dX6_wind_26 rfl ?_
      refine z_iret hX hR dX6_wind_29 ?_
      first | exact Or.inl ⟨fun q => hn q.1, rfl, rfl⟩ | exact Or.inl ⟨fun q => hnB q.2, rfl, rfl⟩ | exact Or.inr ⟨j, hj, rfl, hB, rfl, rfl⟩
  · -- 6 F
    refine z_if_eq (tgt := 26) hX dX6_wind_9 (by decide) (fun _ => ?_) (fun c => absurd c (by decide))
    refine z_sipush (v := -1001) hX dX6_wind_26 rfl ?_
    refine z_iret hX hR dX6_wind_29 ?_
    first | exact Or.inl ⟨fun q => hn q.1, rfl, rfl⟩ | exact Or.inl ⟨fun q => hnB q.2, rfl, rfl⟩ | exact Or.inr ⟨j, hj, rfl, hB, rfl, rfl⟩
set_option maxHeartbeats 4000000 in
set_option maxRecDepth 100000 in
theorem c_X6_gives (a : Nat → Nat → Int32) (b : Nat → Nat → Int64) (c : Nat → Int32) (x : Int32) : ∀ l, ZC l yX6_gives cX6_gives 2 (some .int) 4 [.ref 0, .int x] (WM a b c) (fun r w' => w' = WM a b c ∧ ((¬ zJ x 9 ∧ r = some (.int (-1001))) ∨ ∃ j, j < 9 ∧ x = nI j ∧ r = some (.int (giveF (a 1) j 24)))) := by
  intro l
  refine zc_intro (oc := 6) (by decide +kernel) rfl (Nat.le_of_ble_eq_true rfl) ?_
  intro X hX hR
  refine z_norm (ls' := [_, _]) rfl rfl rfl ?_
  refine z_iload_n hX dX6_gives_0 rfl ?_
  first | with_reducible refine z_i2lN hX dX6_gives_1 (by omega) ?_ | refine z_i2l hX dX6_gives_1 ?_
  refine z_lconst (v := 0) hX dX6_gives_2 rfl ?_
  refine z_ldc2 hX dX6_gives_3 k_6_92 ?_
  refine z_callS0 hX dX6_gives_6 ms_6_71 (c_X6_in _ _ _ _) (by decide) rfl rfl (Nat.le_of_ble_eq_true rfl) (fun r w1 hp _ => ?_)
  obtain ⟨rfl, hp⟩ := hp
  rcases zinJ (n := 9) rfl (by decide) hp with ⟨⟨j, hj, rfl⟩, rfl⟩ | ⟨hn, rfl⟩
  · -- 6 T
    refine z_if_eq (tgt := 20) hX dX6_gives_9 (by decide) (fun c => absurd c (by decide)) (fun _ => ?_)
    refine z_aload_n hX dX6_gives_12 rfl ?_
    refine z_iload_n hX dX6_gives_13 rfl ?_
    refine z_callV0 hX dX6_gives_14 mv_6_94 (c_X6_given a b c j hj) (by decide) rfl rfl rfl rfl (Nat.le_of_ble_eq_true rfl) (fun r w1 hp _ => ?_)
    obtain ⟨rfl, rfl⟩ := hp
    refine z_goto (tgt := 23) hX dX6_gives_17 (by decide) ?_
    refine z_iret hX hR dX6_gives_23 ?_
    first | exact ⟨rfl, Or.inl ⟨hn, rfl⟩⟩ | exact ⟨rfl, Or.inr ⟨j, hj, rfl, rfl⟩⟩
  · -- 6 F
    refine z_if_eq (tgt := 20) hX dX6_gives_9 (by decide) (fun _ => ?_) (fun c => absurd c (by decide))
    refine z_sipush (v := -1001) hX dX6_gives_20 rfl ?_
    refine z_iret hX hR dX6_gives_23 ?_
    first | exact ⟨rfl, Or.inl ⟨hn, rfl⟩⟩ | exact ⟨rfl, Or.inr ⟨j, hj, rfl, rfl⟩⟩
