/-! ===== the class: sheets and stuff ===== -/
def WSh (it : Nat → Int32) (f : Nat → Int32) : ZW := [.inr (3, [.ref 1, .int (f 0), .int (f 1), .int (f 2)]), .inl (0, 24, .inl it)]
set_option maxHeartbeats 4000000 in
set_option maxRecDepth 100000 in
theorem c_X3_isOf (it f : Nat → Int32) (y : Int32) : ∀ l, ZC l yX3_isOf cX3_isOf 2 (some .boolean) 0 [.ref 0, .int y] (WSh it f) (fun r w' => w' = WSh it f ∧ (((¬ f 0 = 0 ∧ f 1 = y) ∧ r = some (.int (nI 1))) ∨ (¬ (¬ f 0 = 0 ∧ f 1 = y) ∧ r = some (.int (nI 0))))) := by
  intro l
  refine zc_intro (oc := 3) (by decide +kernel) rfl (Nat.le_of_ble_eq_true rfl) ?_
  intro X hX hR
  refine z_norm (ls' := [_, _]) rfl rfl rfl ?_
  refine z_aload_n hX dX3_isOf_0 rfl ?_
  refine z_get hX dX3_isOf_1 f_3_15 rfl rfl ?_
  refine z_if_eq (tgt := 19) hX dX3_isOf_4 (by decide) (fun c_4 => ?_) (fun c_4 => ?_)
  · -- 4 t
    refine z_iconst (v := nI 0) hX dX3_isOf_19 rfl ?_
    refine z_zret hX hR dX3_isOf_20 (by first | exact Or.inl rfl | exact Or.inr rfl | assumption) ?_
    exact ⟨rfl, Or.inr ⟨fun q => q.1 c_4, rfl⟩⟩
  · -- 4 f
    refine z_aload_n hX dX3_isOf_7 rfl ?_
    refine z_get hX dX3_isOf_8 f_3_19 rfl rfl ?_
    refine z_iload_n hX dX3_isOf_11 rfl ?_
    first | with_reducible refine z_icmp_neN (tgt := 19) hX dX3_isOf_12 (by decide) (by omega) (by omega) (fun c_12 => ?_) (fun c_12 => ?_) | refine z_icmp_ne (tgt := 19) hX dX3_isOf_12 (by decide) (fun c_12 => ?_) (fun c_12 => ?_)
    · -- 12 t
      refine z_iconst (v := nI 0) hX dX3_isOf_19 rfl ?_
      refine z_zret hX hR dX3_isOf_20 (by first | exact Or.inl rfl | exact Or.inr rfl | assumption) ?_
      exact ⟨rfl, Or.inr ⟨fun q => c_12 q.2, rfl⟩⟩
    · -- 12 f
      refine z_iconst (v := nI 1) hX dX3_isOf_15 rfl ?_
      refine z_goto (tgt := 20) hX dX3_isOf_16 (by decide) ?_
      refine z_zret hX hR dX3_isOf_20 (by first | exact Or.inl rfl | exact Or.inr rfl | assumption) ?_
      exact ⟨rfl, Or.inl ⟨⟨c_4, c_12⟩, rfl⟩⟩
set_option maxHeartbeats 4000000 in
set_option maxRecDepth 100000 in
theorem c_X3_begin (it f : Nat → Int32) (x y : Int32) : ∀ l, ZC l yX3_begin cX3_begin 3 none 1 [.ref 0, .int x, .int y] (WSh it f) (fun r w' => r = none ∧ ∃ it1 f1, w' = WSh it1 f1 ∧ (∀ q, q < 24 → it1 q = 0) ∧ f1 0 = nI 1 ∧ f1 1 = x ∧ f1 2 = y) := by
  intro l
  refine zc_intro (oc := 3) (by decide +kernel) rfl (Nat.le_of_ble_eq_true rfl) ?_
  intro X hX hR
  refine z_norm (ls' := [_, _, _]) rfl rfl rfl ?_
  refine z_aload_n hX dX3_begin_0 rfl ?_
  refine z_get hX dX3_begin_1 f_3_9 rfl rfl ?_
  refine z_iconst (v := nI 0) hX dX3_begin_4 rfl ?_
  refine z_callS hX dX3_begin_5 ms_3_26 [1] (c_J_fillI 24 (by decide) (nI 0) it) (by decide) rfl rfl (Nat.le_of_ble_eq_true rfl) rfl rfl (Nat.le_of_ble_eq_true rfl) (fun r w1 hp _ => ?_)
  obtain ⟨rfl, it1, rfl, e1⟩ := hp
  refine z_norm (w' := WSh it1 f) rfl rfl rfl ?_
  refine z_aload_n hX dX3_begin_8 rfl ?_
  refine z_iconst (v := nI 1) hX dX3_begin_9 rfl ?_
  refine z_putz (fs' := [_, _, _, _]) (w' := [_, _]) hX dX3_begin_10 p_3_15 rfl (by first | exact Or.inl rfl | exact Or.inr rfl | assumption) (Nat.le_of_ble_eq_true rfl) rfl rfl ?_
  refine z_aload_n hX dX3_begin_13 rfl ?_
  refine z_iload_n hX dX3_begin_14 rfl ?_
  refine z_puti (fs' := [_, _, _, _]) (w' := [_, _]) hX dX3_begin_15 p_3_19 rfl (Nat.le_of_ble_eq_true rfl) rfl rfl ?_
  refine z_aload_n hX dX3_begin_18 rfl ?_
  refine z_iload_n hX dX3_begin_19 rfl ?_
  refine z_puti (fs' := [_, _, _, _]) (w' := [_, _]) hX dX3_begin_20 p_3_23 rfl (Nat.le_of_ble_eq_true rfl) rfl rfl ?_
  refine z_vret hX hR dX3_begin_23 ?_
  exact ⟨rfl, it1, va_up (va_up (va_up f 0 (nI 1)) 1 x) 2 y, rfl, e1, rfl, rfl, rfl⟩
set_option maxHeartbeats 4000000 in
set_option maxRecDepth 100000 in
theorem lp_ar_2 {X : ZX} {post : Option Value → ZW → Prop} (hX : ZOK X 3 cX3_areRates 0) (hR : ZRet X (some .boolean) post) (it f : Nat → Int32) (N : Nat) (hN : N ≤ 24) (hf : f 2 = nI N) (hpost1 : (∀ q, q < N → zB (it q) 0 1000000) → post (some (.int (nI 1))) (WSh it f)) (hpost2 : ¬ (∀ q, q < N → zB (it q) 0 1000000) → post (some (.int (nI 0))) (WSh it f)) : ∀ (n k : Nat), k ≤ N → N < k + n → (∀ q, q < k → zB (it q) 0 1000000) → ZG X 2 [some (.ref 0), some (.int (nI k))] [] (WSh it f) := by
  intro n
  induction n with
  | zero => intro k z1 z2; omega
  | succ n ih =>
    intro k hk1 hk2 hi
    refine z_iload_n hX dX3_areRates_2 rfl ?_
    refine z_aload_n hX dX3_areRates_3 rfl ?_
    refine z_get hX dX3_areRates_4 f_3_23 rfl rfl ?_
    refine z_top hf ?_
    first | with_reducible refine z_icmp_geN (tgt := 38) hX dX3_areRates_7 (by decide) (by omega) (by omega) (fun c_7 => ?_) (fun c_7 => ?_) | refine z_icmp_ge (tgt := 38) hX dX3_areRates_7 (by decide) (fun c_7 => ?_) (fun c_7 => ?_)
    · -- 7 t
      have zk : k = N := by omega
      subst zk
      refine z_iconst (v := nI 1) hX dX3_areRates_38 rfl ?_
      refine z_zret hX hR dX3_areRates_39 (by first | exact Or.inl rfl | exact Or.inr rfl | assumption) ?_
      exact hpost1 hi
    · -- 7 f
      refine z_aload_n hX dX3_areRates_10 rfl ?_
      refine z_get hX dX3_areRates_11 f_3_9 rfl rfl ?_
      refine z_iload_n hX dX3_areRates_14 rfl ?_
      first | refine z_iald hX dX3_areRates_15 rfl (by omega) (by decide) ?_ | refine z_stld (nm := "FROM") (xs := zFROM) hX dX3_areRates_15 (fun _ _ _ _ h => h.1) (by show _ < 24; omega) (by decide) ?_ | refine z_stld (nm := "TO") (xs := zTO) hX dX3_areRates_15 (fun _ _ _ _ h => h.2.1) (by show _ < 24; omega) (by decide) ?_ | refine z_stld (nm := "FALL") (xs := zFALL) hX dX3_areRates_15 (fun _ _ _ _ h => h.2.2.1) (by show _ < 81; omega) (by decide) ?_
      refine z_if_lt (tgt := 30) hX dX3_areRates_16 (by decide) (fun c_16 => ?_) (fun c_16 => ?_)
      · -- 16 t
        refine z_iconst (v := nI 0) hX dX3_areRates_30 rfl ?_
        refine z_zret hX hR dX3_areRates_31 (by first | exact Or.inl rfl | exact Or.inr rfl | assumption) ?_
        refine hpost2 (fun q => ?_)
        have h := q k (by omega)
        unfold zB at h
        rw [Int32.lt_iff_toInt_lt] at c_16
        have g0 : (0 : Int32).toInt = 0 := rfl
        omega
      · -- 16 f
        refine z_aload_n hX dX3_areRates_19 rfl ?_
        refine z_get hX dX3_areRates_20 f_3_9 rfl rfl ?_
        refine z_iload_n hX dX3_areRates_23 rfl ?_
        first | refine z_iald hX dX3_areRates_24 rfl (by omega) (by decide) ?_ | refine z_stld (nm := "FROM") (xs := zFROM) hX dX3_areRates_24 (fun _ _ _ _ h => h.1) (by show _ < 24; omega) (by decide) ?_ | refine z_stld (nm := "TO") (xs := zTO) hX dX3_areRates_24 (fun _ _ _ _ h => h.2.1) (by show _ < 24; omega) (by decide) ?_ | refine z_stld (nm := "FALL") (xs := zFALL) hX dX3_areRates_24 (fun _ _ _ _ h => h.2.2.1) (by show _ < 81; omega) (by decide) ?_
        refine z_ldc hX dX3_areRates_25 k_3_32 ?_
        refine z_icmp_le (tgt := 32) hX dX3_areRates_27 (by decide) (fun c_27 => ?_) (fun c_27 => ?_)
        · -- 27 t
          first | refine z_iincN (b := 1) (ls' := [_, _]) hX dX3_areRates_32 rfl rfl rfl ?_ | refine z_iinc (ls' := [_, _]) hX dX3_areRates_32 rfl rfl ?_
          refine z_goto (tgt := 2) hX dX3_areRates_35 (by decide) ?_
          refine ih (k + 1) (by omega) (by omega) (fun q hq => ?_)
          rcases (show q < k ∨ q = k by omega) with e | e
          · exact hi q e
          · rw [e]
            rw [Int32.lt_iff_toInt_lt] at c_16
            rw [Int32.le_iff_toInt_le] at c_27
            have g0 : (0 : Int32).toInt = 0 := rfl
            have g1 : (1000000 : Int32).toInt = 1000000 := rfl
            exact ⟨by omega, by omega⟩
        · -- 27 f
          refine z_iconst (v := nI 0) hX dX3_areRates_30 rfl ?_
          refine z_zret hX hR dX3_areRates_31 (by first | exact Or.inl rfl | exact Or.inr rfl | assumption) ?_
          refine hpost2 (fun q => ?_)
          have h := q k (by omega)
          unfold zB at h
          rw [Int32.le_iff_toInt_le] at c_27
          have g1 : (1000000 : Int32).toInt = 1000000 := rfl
          omega
set_option maxHeartbeats 4000000 in
set_option maxRecDepth 100000 in
theorem c_X3_areRates (it f : Nat → Int32) (N : Nat) (hN : N ≤ 24) (hf : f 2 = nI N) : ∀ l, ZC l yX3_areRates cX3_areRates 2 (some .boolean) 0 [.ref 0] (WSh it f) (fun r w' => w' = WSh it f ∧ (((∀ q, q < N → zB (it q) 0 1000000) ∧ r = some (.int (nI 1))) ∨ (¬ (∀ q, q < N → zB (it q) 0 1000000) ∧ r = some (.int (nI 0))))) := by
  intro l
  refine zc_intro (oc := 3) (by decide +kernel) rfl (Nat.le_of_ble_eq_true rfl) ?_
  intro X hX hR
  refine z_norm (ls' := [_, _]) rfl rfl rfl ?_
  refine z_iconst (v := nI 0) hX dX3_areRates_0 rfl ?_
  refine z_istore_n (ls' := [_, _]) hX dX3_areRates_1 (Nat.le_of_ble_eq_true rfl) rfl ?_
  exact lp_ar_2 hX hR it f N hN hf (fun e => ⟨rfl, Or.inl ⟨e, rfl⟩⟩) (fun e => ⟨rfl, Or.inr ⟨e, rfl⟩⟩) (N + 1) 0 (by omega) (by omega) (fun q hq => by omega)
/-- a source's world; e: one cell more -/
def WSt (rt : Nat → Int32) (pl bf : Nat → Int64) (hm : Int32) (g : Nat → Int64) (e : ZW) : ZW := .inr (4, [.ref 1, .ref 2, .ref 3, .int hm, .long (g 0), .long (g 1), .long (g 2)]) :: .inl (0, 24, .inl rt) :: .inl (1, 10, .inr pl) :: .inl (1, 10, .inr bf) :: e
set_option maxHeartbeats 4000000 in
set_option maxRecDepth 100000 in
theorem lp_sd_10 {X : ZX} {post : Option Value → ZW → Prop} (hX : ZOK X 4 cX4_stand 0) (hR : ZRet X (some .int) post) (rt0 : Nat → Int32) (pl bf : Nat → Int64) (hm : Int32) (g : Nat → Int64) (it : Nat → Int32) (y : Int32) (hpost : ∀ rt, (∀ q, rt q = if q < 24 then it q else rt0 q) → post (some (.int (srcF it 0 24))) (WSt rt pl bf hm g [.inl (0, 24, .inl it)])) : ∀ (n k : Nat) (rt : Nat → Int32), k ≤ 24 → 24 < k + n → (∀ q, rt q = if q < k then it q else rt0 q) → ZG X 10 [some (.ref 0), some (.int y), some (.ref 4), some (.int (srcF it 0 k)), some (.int (nI k))] [] (WSt rt pl bf hm g [.inl (0, 24, .inl it)]) := by
  intro n
  induction n with
  | zero => intro k rt z1 z2; omega
  | succ n ih =>
    intro k rt hk1 hk2 hr
    refine z_iload hX dX4_stand_10 rfl ?_
    refine z_bipush (v := nI 24) hX dX4_stand_12 rfl ?_
    first | with_reducible refine z_icmp_geN (tgt := 44) hX dX4_stand_14 (by decide) (by omega) (by omega) (fun c_14 => ?_) (fun c_14 => ?_) | refine z_icmp_ge (tgt := 44) hX dX4_stand_14 (by decide) (fun c_14 => ?_) (fun c_14 => ?_)
    · -- 14 t
      have zk : k = 24 := by omega
      subst zk
      refine z_iload_n hX dX4_stand_44 rfl ?_
      refine z_iret hX hR dX4_stand_45 ?_
      exact hpost rt hr
    · -- 14 f
      refine z_aload_n hX dX4_stand_17 rfl ?_
      refine z_get hX dX4_stand_18 f_4_9 rfl rfl ?_
      refine z_iload hX dX4_stand_21 rfl ?_
      refine z_aload_n hX dX4_stand_23 rfl ?_
      refine z_iload hX dX4_stand_24 rfl ?_
      first | refine z_iald hX dX4_stand_26 rfl (by omega) (by decide) ?_ | refine z_stld (nm := "FROM") (xs := zFROM) hX dX4_stand_26 (fun _ _ _ _ h => h.1) (by show _ < 24; omega) (by decide) ?_ | refine z_stld (nm := "TO") (xs := zTO) hX dX4_stand_26 (fun _ _ _ _ h => h.2.1) (by show _ < 24; omega) (by decide) ?_ | refine z_stld (nm := "FALL") (xs := zFALL) hX dX4_stand_26 (fun _ _ _ _ h => h.2.2.1) (by show _ < 81; omega) (by decide) ?_
      refine z_iast (w' := [_, _, _, _, _]) hX dX4_stand_27 rfl (by omega) (by decide) rfl ?_
      refine z_iload_n hX dX4_stand_28 rfl ?_
      refine z_aload_n hX dX4_stand_29 rfl ?_
      refine z_get hX dX4_stand_30 f_4_9 rfl rfl ?_
      refine z_iload hX dX4_stand_33 rfl ?_
      refine z_iald hX dX4_stand_35 rfl (by omega) (by decide) ?_
      refine z_top (y := it (24 * 0 + k)) (by rw [pk_us, Nat.mul_zero, Nat.zero_add]) ?_
      first | with_reducible refine z_iaddN hX dX4_stand_36 ?_ | refine z_iadd hX dX4_stand_36 ?_
      refine z_istore_n (ls' := [_, _, _, _, _]) hX dX4_stand_37 (Nat.le_of_ble_eq_true rfl) rfl ?_
      first | refine z_iincN (b := 1) (ls' := [_, _, _, _, _]) hX dX4_stand_38 rfl rfl rfl ?_ | refine z_iinc (ls' := [_, _, _, _, _]) hX dX4_stand_38 rfl rfl ?_
      refine z_goto (tgt := 10) hX dX4_stand_41 (by decide) ?_
      refine ih (k + 1) (upd rt k (it k)) (by omega) (by omega) (fun q => ?_)
      by_cases e : q = k
      · rw [e, pk_us, if_pos (by omega)]
      · rw [pk_un e, hr q]
        by_cases e2 : q < k
        · rw [if_pos e2, if_pos (by omega)]
        · rw [if_neg e2, if_neg (by omega)]
set_option maxHeartbeats 4000000 in
set_option maxRecDepth 100000 in
theorem c_X4_stand (rt : Nat → Int32) (pl bf : Nat → Int64) (hm : Int32) (g : Nat → Int64) (it : Nat → Int32) (y : Int32) : ∀ l, ZC l yX4_stand cX4_stand 5 (some .int) 0 [.ref 0, .int y, .ref 4] (WSt rt pl bf hm g [.inl (0, 24, .inl it)]) (fun r w' => r = some (.int (srcF it 0 24)) ∧ ∃ rt1, w' = WSt rt1 pl bf y g [.inl (0, 24, .inl it)] ∧ ∀ q, rt1 q = if q < 24 then it q else rt q) := by
  intro l
  refine zc_intro (oc := 4) (by decide +kernel) rfl (Nat.le_of_ble_eq_true rfl) ?_
  intro X hX hR
  refine z_norm (ls' := [_, _, _, _, _]) rfl rfl rfl ?_
  refine z_aload_n hX dX4_stand_0 rfl ?_
  refine z_iload_n hX dX4_stand_1 rfl ?_
  refine z_puti (fs' := [_, _, _, _, _, _, _]) (w' := [_, _, _, _, _]) hX dX4_stand_2 p_4_22 rfl (Nat.le_of_ble_eq_true rfl) rfl rfl ?_
  refine z_iconst (v := nI 0) hX dX4_stand_5 rfl ?_
  refine z_istore_n (ls' := [_, _, _, _, _]) hX dX4_stand_6 (Nat.le_of_ble_eq_true rfl) rfl ?_
  refine z_iconst (v := nI 0) hX dX4_stand_7 rfl ?_
  refine z_istore (ls' := [_, _, _, _, _]) hX dX4_stand_8 (Nat.le_of_ble_eq_true rfl) rfl ?_
  exact lp_sd_10 hX hR rt pl bf y g it y (fun rt1 e => ⟨rfl, rt1, rfl, e⟩) 25 0 rt (by omega) (by omega) (fun q => by rw [if_neg (by omega)])
set_option maxHeartbeats 4000000 in
set_option maxRecDepth 100000 in
theorem c_X4_giveOff (rt : Nat → Int32) (pl bf : Nat → Int64) (hm : Int32) (g : Nat → Int64) (k hmn : Nat) (hk : k < 24) (hh : hmn < 9) (hm1 : hm = nI hmn) : ∀ l, ZC l yX4_giveOff cX4_giveOff 2 none 0 [.ref 0, .int (nI k)] (WSt rt pl bf hm g []) (fun r w' => r = none ∧ w' = WSt rt (vp_updL pl hmn (pl hmn + (rt k).toInt64)) bf hm (va_up g 0 (g 0 + (rt k).toInt64)) []) := by
  intro l
  refine zc_intro (oc := 4) (by decide +kernel) rfl (Nat.le_of_ble_eq_true rfl) ?_
  intro X hX hR
  refine z_norm (ls' := [_, _]) rfl rfl rfl ?_
  refine z_aload_n hX dX4_giveOff_0 rfl ?_
  refine z_get hX dX4_giveOff_1 f_4_15 rfl rfl ?_
  refine z_aload_n hX dX4_giveOff_4 rfl ?_
  refine z_get hX dX4_giveOff_5 f_4_22 rfl rfl ?_
  refine z_top hm1 ?_
  first | refine z_dup2_2 hX dX4_giveOff_8 rfl ?_ | refine z_dup2_11 hX dX4_giveOff_8 rfl rfl ?_
  refine z_lald hX dX4_giveOff_9 rfl (by omega) (by decide) ?_
  refine z_aload_n hX dX4_giveOff_10 rfl ?_
  refine z_get hX dX4_giveOff_11 f_4_9 rfl rfl ?_
  refine z_iload_n hX dX4_giveOff_14 rfl ?_
  first | refine z_iald hX dX4_giveOff_15 rfl (by omega) (by decide) ?_ | refine z_stld (nm := "FROM") (xs := zFROM) hX dX4_giveOff_15 (fun _ _ _ _ h => h.1) (by show _ < 24; omega) (by decide) ?_ | refine z_stld (nm := "TO") (xs := zTO) hX dX4_giveOff_15 (fun _ _ _ _ h => h.2.1) (by show _ < 24; omega) (by decide) ?_ | refine z_stld (nm := "FALL") (xs := zFALL) hX dX4_giveOff_15 (fun _ _ _ _ h => h.2.2.1) (by show _ < 81; omega) (by decide) ?_
  refine z_i2l hX dX4_giveOff_16 ?_
  refine z_ladd hX dX4_giveOff_17 ?_
  refine z_last (w' := [_, _, _, _]) hX dX4_giveOff_18 rfl (by omega) (by decide) rfl ?_
  refine z_aload_n hX dX4_giveOff_19 rfl ?_
  refine z_dup hX dX4_giveOff_20 rfl ?_
  refine z_get hX dX4_giveOff_21 f_4_26 rfl rfl ?_
  refine z_aload_n hX dX4_giveOff_24 rfl ?_
  refine z_get hX dX4_giveOff_25 f_4_9 rfl rfl ?_
  refine z_iload_n hX dX4_giveOff_28 rfl ?_
  first | refine z_iald hX dX4_giveOff_29 rfl (by omega) (by decide) ?_ | refine z_stld (nm := "FROM") (xs := zFROM) hX dX4_giveOff_29 (fun _ _ _ _ h => h.1) (by show _ < 24; omega) (by decide) ?_ | refine z_stld (nm := "TO") (xs := zTO) hX dX4_giveOff_29 (fun _ _ _ _ h => h.2.1) (by show _ < 24; omega) (by decide) ?_ | refine z_stld (nm := "FALL") (xs := zFALL) hX dX4_giveOff_29 (fun _ _ _ _ h => h.2.2.1) (by show _ < 81; omega) (by decide) ?_
  refine z_i2l hX dX4_giveOff_30 ?_
  refine z_ladd hX dX4_giveOff_31 ?_
  refine z_putl (fs' := [_, _, _, _, _, _, _]) (w' := [_, _, _, _]) hX dX4_giveOff_32 p_4_26 rfl (Nat.le_of_ble_eq_true rfl) rfl rfl ?_
  refine z_vret hX hR dX4_giveOff_35 ?_
  exact ⟨rfl, rfl⟩
set_option maxHeartbeats 4000000 in
set_option maxRecDepth 100000 in
theorem lp_ib_4 {X : ZX} {post : Option Value → ZW → Prop} (hX : ZOK X 4 cX4_inBoxes 0) (hR : ZRet X (some .long) post) (rt : Nat → Int32) (pl bf : Nat → Int64) (hm : Int32) (g : Nat → Int64) (hpost : post (some (.long (sum9 pl 9))) (WSt rt pl bf hm g [])) : ∀ (n k : Nat), k ≤ 9 → 9 < k + n → ZG X 4 [some (.ref 0), some (.long (sum9 pl k)), none, some (.int (nI k))] [] (WSt rt pl bf hm g []) := by
  intro n
  induction n with
  | zero => intro k z1 z2; omega
  | succ n ih =>
    intro k hk1 hk2
    refine z_iload_n hX dX4_inBoxes_4 rfl ?_
    refine z_bipush (v := nI 9) hX dX4_inBoxes_5 rfl ?_
    first | with_reducible refine z_icmp_geN (tgt := 25) hX dX4_inBoxes_7 (by decide) (by omega) (by omega) (fun c_7 => ?_) (fun c_7 => ?_) | refine z_icmp_ge (tgt := 25) hX dX4_inBoxes_7 (by decide) (fun c_7 => ?_) (fun c_7 => ?_)
    · -- 7 t
      have zk : k = 9 := by omega
      subst zk
      refine z_lload_n hX dX4_inBoxes_25 rfl ?_
      refine z_lret hX hR dX4_inBoxes_26 ?_
      exact hpost
    · -- 7 f
      refine z_lload_n hX dX4_inBoxes_10 rfl ?_
      refine z_aload_n hX dX4_inBoxes_11 rfl ?_
      refine z_get hX dX4_inBoxes_12 f_4_15 rfl rfl ?_
      refine z_iload_n hX dX4_inBoxes_15 rfl ?_
      refine z_lald hX dX4_inBoxes_16 rfl (by omega) (by decide) ?_
      refine z_ladd hX dX4_inBoxes_17 ?_
      refine z_lstore_n (ls' := [_, _, _, _]) hX dX4_inBoxes_18 (Nat.le_of_ble_eq_true rfl) rfl ?_
      first | refine z_iincN (b := 1) (ls' := [_, _, _, _]) hX dX4_inBoxes_19 rfl rfl rfl ?_ | refine z_iinc (ls' := [_, _, _, _]) hX dX4_inBoxes_19 rfl rfl ?_
      refine z_goto (tgt := 4) hX dX4_inBoxes_22 (by decide) ?_
      exact ih (k + 1) (by omega) (by omega)
set_option maxHeartbeats 4000000 in
set_option maxRecDepth 100000 in
theorem c_X4_inBoxes (rt : Nat → Int32) (pl bf : Nat → Int64) (hm : Int32) (g : Nat → Int64) : ∀ l, ZC l yX4_inBoxes cX4_inBoxes 4 (some .long) 0 [.ref 0] (WSt rt pl bf hm g []) (fun r w' => r = some (.long (sum9 pl 9)) ∧ w' = WSt rt pl bf hm g []) := by
  intro l
  refine zc_intro (oc := 4) (by decide +kernel) rfl (Nat.le_of_ble_eq_true rfl) ?_
  intro X hX hR
  refine z_norm (ls' := [_, _, _, _]) rfl rfl rfl ?_
  refine z_lconst (v := 0) hX dX4_inBoxes_0 rfl ?_
  refine z_lstore_n (ls' := [_, _, _, _]) hX dX4_inBoxes_1 (Nat.le_of_ble_eq_true rfl) rfl ?_
  refine z_iconst (v := nI 0) hX dX4_inBoxes_2 rfl ?_
  refine z_istore_n (ls' := [_, _, _, _]) hX dX4_inBoxes_3 (Nat.le_of_ble_eq_true rfl) rfl ?_
  exact lp_ib_4 hX hR rt pl bf hm g ⟨rfl, rfl⟩ 10 0 (by omega) (by omega)
set_option maxHeartbeats 4000000 in
set_option maxRecDepth 100000 in
theorem lp_fo_2 {X : ZX} {post : Option Value → ZW → Prop} (hX : ZOK X 4 cX4_fallOut 0) (hR : ZRet X none post) (rt : Nat → Int32) (pl0 bf : Nat → Int64) (hm : Int32) (g0 : Nat → Int64) (y : Int32) (hpost : ∀ pl g, (∀ q, pl q = if q < 9 then pl0 q - (washF (pl0 q) y + laidF (pl0 q) y) else pl0 q) → g 0 = g0 0 → g 1 = accA (fun x => washF (pl0 x) y) 9 (g0 1) → g 2 = accA (fun x => laidF (pl0 x) y) 9 (g0 2) → post none (WSt rt pl bf hm g [])) : ∀ (n k : Nat) (pl g : Nat → Int64), k ≤ 9 → 9 < k + n → (∀ q, pl q = if q < k then pl0 q - (washF (pl0 q) y + laidF (pl0 q) y) else pl0 q) → g 0 = g0 0 → g 1 = accA (fun x => washF (pl0 x) y) k (g0 1) → g 2 = accA (fun x => laidF (pl0 x) y) k (g0 2) → ZG X 2 [some (.ref 0), some (.int y), some (.int (nI k)), none, none, none, none] [] (WSt rt pl bf hm g []) := by
  intro n
  induction n with
  | zero => intro k pl g z1 z2; omega
  | succ n ih =>
    intro k pl g hk1 hk2 hp e0 e1 e2
    refine z_iload_n hX dX4_fallOut_2 rfl ?_
    refine z_bipush (v := nI 9) hX dX4_fallOut_3 rfl ?_
    first | with_reducible refine z_icmp_geN (tgt := 76) hX dX4_fallOut_5 (by decide) (by omega) (by omega) (fun c_5 => ?_) (fun c_5 => ?_) | refine z_icmp_ge (tgt := 76) hX dX4_fallOut_5 (by decide) (fun c_5 => ?_) (fun c_5 => ?_)
    · -- 5 t
      have zk : k = 9 := by omega
      subst zk
      refine z_vret hX hR dX4_fallOut_76 ?_
      exact hpost pl g hp e0 e1 e2
    · -- 5 f
      have hpk : pl k = pl0 k := by rw [hp k, if_neg (by omega)]
      refine z_aload_n hX dX4_fallOut_8 rfl ?_
      refine z_get hX dX4_fallOut_9 f_4_15 rfl rfl ?_
      refine z_iload_n hX dX4_fallOut_12 rfl ?_
      refine z_lald hX dX4_fallOut_13 rfl (by omega) (by decide) ?_
      refine z_topl hpk ?_
      refine z_iload_n hX dX4_fallOut_14 rfl ?_
      refine z_i2l hX dX4_fallOut_15 ?_
      refine z_lmul hX dX4_fallOut_16 ?_
      refine z_ldc2 hX dX4_fallOut_17 k_4_36 ?_
      refine z_ldiv hX dX4_fallOut_20 (by decide) ?_
      refine z_lstore_n (ls' := [_, _, _, _, _, _, _]) hX dX4_fallOut_21 (Nat.le_of_ble_eq_true rfl) rfl ?_
      refine z_aload_n hX dX4_fallOut_22 rfl ?_
      refine z_get hX dX4_fallOut_23 f_4_15 rfl rfl ?_
      refine z_iload_n hX dX4_fallOut_26 rfl ?_
      refine z_lald hX dX4_fallOut_27 rfl (by omega) (by decide) ?_
      refine z_topl hpk ?_
      refine z_lload_n hX dX4_fallOut_28 rfl ?_
      refine z_lsub hX dX4_fallOut_29 ?_
      refine z_ldc2 hX dX4_fallOut_30 k_4_36 ?_
      refine z_ldiv hX dX4_fallOut_33 (by decide) ?_
      refine z_lstore (ls' := [_, _, _, _, _, _, _]) hX dX4_fallOut_34 (Nat.le_of_ble_eq_true rfl) rfl ?_
      refine z_aload_n hX dX4_fallOut_36 rfl ?_
      refine z_get hX dX4_fallOut_37 f_4_15 rfl rfl ?_
      refine z_iload_n hX dX4_fallOut_40 rfl ?_
      first | refine z_dup2_2 hX dX4_fallOut_41 rfl ?_ | refine z_dup2_11 hX dX4_fallOut_41 rfl rfl ?_
      refine z_lald hX dX4_fallOut_42 rfl (by omega) (by decide) ?_
      refine z_topl hpk ?_
      refine z_lload_n hX dX4_fallOut_43 rfl ?_
      refine z_lload hX dX4_fallOut_44 rfl ?_
      refine z_ladd hX dX4_fallOut_46 ?_
      refine z_lsub hX dX4_fallOut_47 ?_
      refine z_last (w' := [_, _, _, _]) hX dX4_fallOut_48 rfl (by omega) (by decide) rfl ?_
      refine z_aload_n hX dX4_fallOut_49 rfl ?_
      refine z_dup hX dX4_fallOut_50 rfl ?_
      refine z_get hX dX4_fallOut_51 f_4_30 rfl rfl ?_
      refine z_lload_n hX dX4_fallOut_54 rfl ?_
      refine z_ladd hX dX4_fallOut_55 ?_
      refine z_putl (fs' := [_, _, _, _, _, _, _]) (w' := [_, _, _, _]) hX dX4_fallOut_56 p_4_30 rfl (Nat.le_of_ble_eq_true rfl) rfl rfl ?_
      refine z_aload_n hX dX4_fallOut_59 rfl ?_
      refine z_dup hX dX4_fallOut_60 rfl ?_
      refine z_get hX dX4_fallOut_61 f_4_33 rfl rfl ?_
      refine z_lload hX dX4_fallOut_64 rfl ?_
      refine z_ladd hX dX4_fallOut_66 ?_
      refine z_putl (fs' := [_, _, _, _, _, _, _]) (w' := [_, _, _, _]) hX dX4_fallOut_67 p_4_33 rfl (Nat.le_of_ble_eq_true rfl) rfl rfl ?_
      first | refine z_iincN (b := 1) (ls' := [_, _, _, _, _, _, _]) hX dX4_fallOut_70 rfl rfl rfl ?_ | refine z_iinc (ls' := [_, _, _, _, _, _, _]) hX dX4_fallOut_70 rfl rfl ?_
      refine z_goto (tgt := 2) hX dX4_fallOut_73 (by decide) ?_
      refine z_forget (ls' := [some (.ref 0), some _, some _, none, none, none, none]) ⟨rfl, rfl, rfl, trivial⟩ ?_
      refine ih (k + 1) (vp_updL pl k (pl0 k - (washF (pl0 k) y + laidF (pl0 k) y))) (va_up (va_up g 1 (g 1 + washF (pl0 k) y)) 2 (g 2 + laidF (pl0 k) y)) (by omega) (by omega) (fun q => ?_) e0 ?_ ?_
      · by_cases e : q = k
        · rw [e, pk_uLs, if_pos (by omega)]
        · rw [pk_uLn e, hp q]
          by_cases e3 : q < k
          · rw [if_pos e3, if_pos (by omega)]
          · rw [if_neg e3, if_neg (by omega)]
      · show g 1 + washF (pl0 k) y = _
        rw [accA_s, e1]
      · show g 2 + laidF (pl0 k) y = _
        rw [accA_s, e2]
set_option maxHeartbeats 4000000 in
set_option maxRecDepth 100000 in
theorem c_X4_fallOut (rt : Nat → Int32) (pl bf : Nat → Int64) (hm : Int32) (g : Nat → Int64) (y : Int32) : ∀ l, ZC l yX4_fallOut cX4_fallOut 7 none 0 [.ref 0, .int y] (WSt rt pl bf hm g []) (fun r w' => r = none ∧ ∃ pl1 g1, w' = WSt rt pl1 bf hm g1 [] ∧ (∀ q, pl1 q = if q < 9 then pl q - (washF (pl q) y + laidF (pl q) y) else pl q) ∧ g1 0 = g 0 ∧ g1 1 = accA (fun x => washF (pl x) y) 9 (g 1) ∧ g1 2 = accA (fun x => laidF (pl x) y) 9 (g 2)) := by
  intro l
  refine zc_intro (oc := 4) (by decide +kernel) rfl (Nat.le_of_ble_eq_true rfl) ?_
  intro X hX hR
  refine z_norm (ls' := [_, _, _, _, _, _, _]) rfl rfl rfl ?_
  refine z_iconst (v := nI 0) hX dX4_fallOut_0 rfl ?_
  refine z_istore_n (ls' := [_, _, _, _, _, _, _]) hX dX4_fallOut_1 (Nat.le_of_ble_eq_true rfl) rfl ?_
  exact lp_fo_2 hX hR rt pl bf hm g y (fun pl1 g1 q1 q2 q3 q4 => ⟨rfl, pl1, g1, rfl, q1, q2, q3, q4⟩) 10 0 pl g (by omega) (by omega) (fun q => by rw [if_neg (by omega)]) rfl rfl rfl
