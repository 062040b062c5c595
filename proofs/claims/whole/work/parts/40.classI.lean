/-! ===== the class: sources, doors ===== -/
theorem z_tabIn {X : ZX} {oc d pc : Nat} {B : ByteArray} {ls : List (Option Value)} {st : List Value} {w : ZW} {x : Int32} {dflt lo hi : Int} {offs : Array Int} {len : Nat} {off : Int} {tgt : Nat} (hX : ZOK X oc B d) (hd : decode B pc = .ok (.tableswitch dflt lo hi offs, len)) (h1 : ¬ x.toInt < lo) (h2 : ¬ hi < x.toInt) (ho : offs[(x.toInt - lo).toNat]? = some off) (ht : (pc : Int) + off = (tgt : Int)) (k : ZG X tgt ls st w) : ZG X pc ls (.int x :: st) w := by
  obtain ⟨p, l, e, R, s, m, args, below, meth, c, D, cy, ad, A, n, cells, slots, Q⟩ := X
  intro H locs lsA g1 g2 g3 g4
  exact lv_tableIn hX.ex hX.by hd h1 h2 ho ht (k H locs lsA g1 g2 g3 g4)
theorem z_tabOut {X : ZX} {oc d pc : Nat} {B : ByteArray} {ls : List (Option Value)} {st : List Value} {w : ZW} {x : Int32} {dflt lo hi : Int} {offs : Array Int} {len : Nat} {tgt : Nat} (hX : ZOK X oc B d) (hd : decode B pc = .ok (.tableswitch dflt lo hi offs, len)) (h : x.toInt < lo ∨ hi < x.toInt) (ht : (pc : Int) + dflt = (tgt : Int)) (k : ZG X tgt ls st w) : ZG X pc ls (.int x :: st) w := by
  obtain ⟨p, l, e, R, s, m, args, below, meth, c, D, cy, ad, A, n, cells, slots, Q⟩ := X
  intro H locs lsA g1 g2 g3 g4
  exact lv_tableOut hX.ex hX.by hd h ht (k H locs lsA g1 g2 g3 g4)
theorem zJ_gt {x : Int32} {m : Nat} (hm : m < 2147483647) (h : ¬ x ≤ nI m) : ¬ zJ x (m + 1) := by
  rw [zJ_iff (by omega)]
  rw [Int32.le_iff_toInt_le, nI_toInt (by omega)] at h
  omega
theorem zJ_le2 {x : Int32} {m : Nat} (hm : m < 2147483647) (h1 : ¬ x < 0) (h2 : x ≤ nI m) : zJ x (m + 1) := zJ_of_le (Int32.not_lt.mp h1) h2 hm
set_option maxHeartbeats 4000000 in
set_option maxRecDepth 100000 in
theorem c_X5_source (a : Nat → Nat → Int32) (b : Nat → Nat → Int64) (f : Nat → Nat → Int32) (g : Nat → Nat → Int64) (hsz : ∀ s, s < 4 → ∃ n, n ≤ 24 ∧ f (6 + 2 * s) 2 = nI n) (x y z u : Int32) : ∀ l, ZC l yX5_source cX5_source 6 (some .int) 1 [.ref 0, .int x, .int y, .int z, .int u] (WB a b f g) (fun r w' => (¬ (zJ x 3 ∧ zJ y 9 ∧ zJ z 4 ∧ zJ u 2) ∧ r = some (.int (-1)) ∧ w' = WB a b f g) ∨ ∃ t h s l n, t < 3 ∧ h < 9 ∧ s < 4 ∧ l < 2 ∧ x = nI t ∧ y = nI h ∧ z = nI s ∧ u = nI l ∧ f (6 + 2 * s) 2 = nI n ∧ n ≤ 24 ∧ ((¬ (¬ f (6 + 2 * s) 0 = 0 ∧ f (6 + 2 * s) 1 = nI l) ∧ f (6 + 2 * s) 0 = 0 ∧ r = some (.int (-11)) ∧ w' = WB a b f g) ∨ (¬ (¬ f (6 + 2 * s) 0 = 0 ∧ f (6 + 2 * s) 1 = nI l) ∧ ¬ f (6 + 2 * s) 0 = 0 ∧ r = some (.int (-12)) ∧ w' = WB a b f g) ∨ ((¬ f (6 + 2 * s) 0 = 0 ∧ f (6 + 2 * s) 1 = nI l) ∧ ¬ n = 24 ∧ r = some (.int (-13)) ∧ w' = WB a b f g) ∨ ((¬ f (6 + 2 * s) 0 = 0 ∧ f (6 + 2 * s) 1 = nI l) ∧ n = 24 ∧ ¬ (∀ q, q < 24 → zB (a (7 + 2 * s) q) 0 1000000) ∧ r = some (.int (-2)) ∧ w' = WB a b f g) ∨ ∃ rt, (¬ f (6 + 2 * s) 0 = 0 ∧ f (6 + 2 * s) 1 = nI l) ∧ n = 24 ∧ (∀ q, q < 24 → zB (a (7 + 2 * s) q) 0 1000000) ∧ r = some (.int (srcF (a (7 + 2 * s)) 0 24)) ∧ (∀ q, rt q = if q < 24 then a (7 + 2 * s) q else a (16 + 4 * t) q) ∧ w' = WB (va_up a (16 + 4 * t) rt) b (va_up f (15 + 4 * t) (fun _ => nI h)) g)) := by
  intro l
  refine zc_intro (oc := 5) (by decide +kernel) rfl (Nat.le_of_ble_eq_true rfl) ?_
  intro X hX hR
  refine z_norm (ls' := [_, _, _, _, _, _]) rfl rfl rfl ?_
  refine z_iload_n hX dX5_source_0 rfl ?_
  refine z_iconst (v := nI 3) hX dX5_source_1 rfl ?_
  refine z_callS0 hX dX5_source_2 ms_5_48 (c_X5_isBelow _ 3 (by decide) _) (by decide) rfl rfl (Nat.le_of_ble_eq_true rfl) (fun r w1 hp _ => ?_)
  obtain ⟨rfl, ⟨⟨t, ht, rfl⟩, rfl⟩ | ⟨hn_t, rfl⟩⟩ := hp
  · -- 2 T
    refine z_if_eq (tgt := 33) hX dX5_source_5 (by decide) (fun c => absurd c (by decide)) (fun _ => ?_)
    refine z_iload_n hX dX5_source_8 rfl ?_
    refine z_bipush (v := nI 9) hX dX5_source_9 rfl ?_
    refine z_callS0 hX dX5_source_11 ms_5_48 (c_X5_isBelow _ 9 (by decide) _) (by decide) rfl rfl (Nat.le_of_ble_eq_true rfl) (fun r w1 hp _ => ?_)
    obtain ⟨rfl, ⟨⟨h, hh, rfl⟩, rfl⟩ | ⟨hn_h, rfl⟩⟩ := hp
    · -- 11 T
      refine z_if_eq (tgt := 33) hX dX5_source_14 (by decide) (fun c => absurd c (by decide)) (fun _ => ?_)
      refine z_iload_n hX dX5_source_17 rfl ?_
      refine z_iconst (v := nI 4) hX dX5_source_18 rfl ?_
      refine z_callS0 hX dX5_source_19 ms_5_48 (c_X5_isBelow _ 4 (by decide) _) (by decide) rfl rfl (Nat.le_of_ble_eq_true rfl) (fun r w1 hp _ => ?_)
      obtain ⟨rfl, ⟨⟨s, hs, rfl⟩, rfl⟩ | ⟨hn_s, rfl⟩⟩ := hp
      · -- 19 T
        refine z_if_eq (tgt := 33) hX dX5_source_22 (by decide) (fun c => absurd c (by decide)) (fun _ => ?_)
        refine z_iload hX dX5_source_25 rfl ?_
        refine z_callS0 hX dX5_source_27 ms_5_73 (c_X5_isLane _ _) (by decide) rfl rfl (Nat.le_of_ble_eq_true rfl) (fun r w1 hp _ => ?_)
        obtain ⟨rfl, ⟨⟨l, hl, rfl⟩, rfl⟩ | ⟨hn_l, rfl⟩⟩ := hp
        · -- 27 T
          obtain ⟨zn, hz1, hz2⟩ := hsz s hs
          refine z_if_ne (tgt := 35) hX dX5_source_30 (by decide) (fun _ => ?_) (fun c => absurd c (by decide))
          refine z_aload_n hX dX5_source_35 rfl ?_
          refine z_get hX dX5_source_36 f_5_18 rfl rfl ?_
          refine z_iload_n hX dX5_source_39 rfl ?_
          refine z_aald hX dX5_source_40 rfl (by decide) (wb_shr (i := s) (by omega)) (Nat.le_of_ble_eq_true rfl) ?_
          refine z_astore (ls' := [_, _, _, _, _, _]) hX dX5_source_41 (Nat.le_of_ble_eq_true rfl) rfl ?_
          refine z_aload hX dX5_source_43 rfl ?_
          refine z_iload hX dX5_source_45 rfl ?_
          refine z_callV hX dX5_source_47 mv_5_88 (isS s) (c_X3_isOf (a (7 + 2 * s)) (f (6 + 2 * s)) _) (by decide) rfl rfl (wb_subS a b f g hs) (wb_ndS hs) (Nat.le_of_ble_eq_true rfl) rfl rfl (Nat.le_of_ble_eq_true rfl) (fun r w1 hp _ => ?_)
          obtain ⟨rfl, hp⟩ := hp
          refine z_norm (w' := WB a b f g) rfl rfl (by rw [wb_putS a b f g hs, va_up_id, va_up_id]) ?_
          rcases hp with ⟨hO, rfl⟩ | ⟨hO, rfl⟩
          · -- 47 T
            refine z_if_ne (tgt := 69) hX dX5_source_50 (by decide) (fun _ => ?_) (fun c => absurd c (by decide))
            refine z_aload hX dX5_source_69 rfl ?_
            refine z_get hX dX5_source_71 f_5_85 (wb_sho a b f g (i := s) (by omega)) rfl ?_
            refine z_top hz2 ?_
            refine z_bipush (v := nI 24) hX dX5_source_74 rfl ?_
            first | with_reducible refine z_icmp_eqN (tgt := 82) hX dX5_source_76 (by decide) (by omega) (by omega) (fun c_76 => ?_) (fun c_76 => ?_) | refine z_icmp_eq (tgt := 82) hX dX5_source_76 (by decide) (fun c_76 => ?_) (fun c_76 => ?_)
            · -- 76 t
              refine z_aload hX dX5_source_82 rfl ?_
              have hz2 : f (6 + 2 * s) 2 = nI 24 := by rw [hz2, c_76]
              refine z_callV hX dX5_source_84 mv_5_94 (isS s) (c_X3_areRates (a (7 + 2 * s)) (f (6 + 2 * s)) 24 (by decide) hz2) (by decide) rfl rfl (wb_subS a b f g hs) (wb_ndS hs) (Nat.le_of_ble_eq_true rfl) rfl rfl (Nat.le_of_ble_eq_true rfl) (fun r w1 hp _ => ?_)
              obtain ⟨rfl, hp⟩ := hp
              refine z_norm (w' := WB a b f g) rfl rfl (by rw [wb_putS a b f g hs, va_up_id, va_up_id]) ?_
              rcases hp with ⟨hA, rfl⟩ | ⟨hA, rfl⟩
              · -- 84 T
                refine z_if_ne (tgt := 93) hX dX5_source_87 (by decide) (fun _ => ?_) (fun c => absurd c (by decide))
                refine z_aload_n hX dX5_source_93 rfl ?_
                refine z_get hX dX5_source_94 f_5_24 rfl rfl ?_
                refine z_iload_n hX dX5_source_97 rfl ?_
                refine z_aald hX dX5_source_98 rfl (by decide) (wb_str (s := t) (by omega)) (Nat.le_of_ble_eq_true rfl) ?_
                refine z_iload_n hX dX5_source_99 rfl ?_
                refine z_aload hX dX5_source_100 rfl ?_
                refine z_get hX dX5_source_102 f_5_91 (wb_sho a b f g (i := s) (by omega)) rfl ?_
                refine z_callV hX dX5_source_105 mv_5_98 (isT1 t (7 + 2 * s)) (c_X4_stand (a (16 + 4 * t)) (b (17 + 4 * t)) (b (18 + 4 * t)) (f (15 + 4 * t) 0) (g (15 + 4 * t)) (a (7 + 2 * s)) _) (by decide) rfl rfl (wb_subTi a b f g ht hs) (wb_ndTi ht hs) (Nat.le_of_ble_eq_true rfl) rfl rfl (Nat.le_of_ble_eq_true rfl) (fun r w1 hp _ => ?_)
                obtain ⟨rfl, rt, rfl, e1⟩ := hp
                refine z_norm (w' := WB (va_up a (16 + 4 * t) rt) b (va_up f (15 + 4 * t) (fun _ => nI h)) g) rfl rfl (by rw [wb_putTi a b f g ht hs, va_up_id g, va_up_id b, va_up_id b, show a (7 + 2 * s) = va_up a (16 + 4 * t) rt (7 + 2 * s) by rw [va_up_ne _ _ (by omega)], va_up_id]) ?_
                refine z_iret hX hR dX5_source_108 ?_
                exact Or.inr ⟨t, h, s, l, zn, ht, hh, hs, hl, rfl, rfl, rfl, rfl, by rw [c_76]; exact hz2, hz1, Or.inr (Or.inr (Or.inr (Or.inr ⟨rt, hO, c_76, hA, rfl, e1, rfl⟩)))⟩
              · -- 84 F
                refine z_if_ne (tgt := 93) hX dX5_source_87 (by decide) (fun c => absurd c (by decide)) (fun _ => ?_)
                refine z_bipush (v := -2) hX dX5_source_90 rfl ?_
                refine z_iret hX hR dX5_source_92 ?_
                exact Or.inr ⟨t, h, s, l, zn, ht, hh, hs, hl, rfl, rfl, rfl, rfl, by rw [c_76]; exact hz2, hz1, Or.inr (Or.inr (Or.inr (Or.inl ⟨hO, c_76, hA, rfl, rfl⟩)))⟩
            · -- 76 f
              refine z_bipush (v := -13) hX dX5_source_79 rfl ?_
              refine z_iret hX hR dX5_source_81 ?_
              exact Or.inr ⟨t, h, s, l, zn, ht, hh, hs, hl, rfl, rfl, rfl, rfl, hz2, hz1, Or.inr (Or.inr (Or.inl ⟨hO, c_76, rfl, rfl⟩))⟩
          · -- 47 F
            refine z_if_ne (tgt := 69) hX dX5_source_50 (by decide) (fun c => absurd c (by decide)) (fun _ => ?_)
            refine z_aload hX dX5_source_53 rfl ?_
            refine z_get hX dX5_source_55 f_5_81 (wb_sho a b f g (i := s) (by omega)) rfl ?_
            refine z_if_eq (tgt := 66) hX dX5_source_58 (by decide) (fun c_58 => ?_) (fun c_58 => ?_)
            · -- 58 t
              refine z_bipush (v := -11) hX dX5_source_66 rfl ?_
              refine z_iret hX hR dX5_source_68 ?_
              exact Or.inr ⟨t, h, s, l, zn, ht, hh, hs, hl, rfl, rfl, rfl, rfl, hz2, hz1, Or.inl ⟨hO, c_58, rfl, rfl⟩⟩
            · -- 58 f
              refine z_bipush (v := -12) hX dX5_source_61 rfl ?_
              refine z_goto (tgt := 68) hX dX5_source_63 (by decide) ?_
              refine z_iret hX hR dX5_source_68 ?_
              exact Or.inr ⟨t, h, s, l, zn, ht, hh, hs, hl, rfl, rfl, rfl, rfl, hz2, hz1, Or.inr (Or.inl ⟨hO, c_58, rfl, rfl⟩)⟩
        · -- 27 F
          refine z_if_ne (tgt := 35) hX dX5_source_30 (by decide) (fun c => absurd c (by decide)) (fun _ => ?_)
          refine z_iconst (v := -1) hX dX5_source_33 rfl ?_
          refine z_iret hX hR dX5_source_34 ?_
          exact Or.inl ⟨fun q => hn_l q.2.2.2, rfl, rfl⟩
      · -- 19 F
        refine z_if_eq (tgt := 33) hX dX5_source_22 (by decide) (fun _ => ?_) (fun c => absurd c (by decide))
        refine z_iconst (v := -1) hX dX5_source_33 rfl ?_
        refine z_iret hX hR dX5_source_34 ?_
        exact Or.inl ⟨fun q => hn_s q.2.2.1, rfl, rfl⟩
    · -- 11 F
      refine z_if_eq (tgt := 33) hX dX5_source_14 (by decide) (fun _ => ?_) (fun c => absurd c (by decide))
      refine z_iconst (v := -1) hX dX5_source_33 rfl ?_
      refine z_iret hX hR dX5_source_34 ?_
      exact Or.inl ⟨fun q => hn_h q.2.1, rfl, rfl⟩
  · -- 2 F
    refine z_if_eq (tgt := 33) hX dX5_source_5 (by decide) (fun _ => ?_) (fun c => absurd c (by decide))
    refine z_iconst (v := -1) hX dX5_source_33 rfl ?_
    refine z_iret hX hR dX5_source_34 ?_
    exact Or.inl ⟨fun q => hn_t q.1, rfl, rfl⟩
set_option maxHeartbeats 4000000 in
set_option maxRecDepth 100000 in
theorem c_X5_door (a : Nat → Nat → Int32) (b : Nat → Nat → Int64) (f : Nat → Nat → Int32) (g : Nat → Nat → Int64) (x y : Int32) : ∀ l, ZC l yX5_door cX5_door 3 (some .int) 1 [.ref 0, .int x, .int y] (WB a b f g) (fun r w' => (¬ (zJ x 4 ∧ zJ y 9) ∧ r = some (.int (-1)) ∧ w' = WB a b f g) ∨ ∃ d h, d < 4 ∧ h < 9 ∧ x = nI d ∧ y = nI h ∧ r = some (.int (f (28 + 7 * d) 1)) ∧ w' = WB a b (va_up f (28 + 7 * d) (va_up (va_up (f (28 + 7 * d)) 0 (nI h)) 1 (nI 0))) g) := by
  intro l
  refine zc_intro (oc := 5) (by decide +kernel) rfl (Nat.le_of_ble_eq_true rfl) ?_
  intro X hX hR
  refine z_norm (ls' := [_, _, _]) rfl rfl rfl ?_
  refine z_iload_n hX dX5_door_0 rfl ?_
  refine z_iconst (v := nI 4) hX dX5_door_1 rfl ?_
  refine z_callS0 hX dX5_door_2 ms_5_48 (c_X5_isBelow _ 4 (by decide) _) (by decide) rfl rfl (Nat.le_of_ble_eq_true rfl) (fun r w1 hp _ => ?_)
  obtain ⟨rfl, ⟨⟨d, hd, rfl⟩, rfl⟩ | ⟨hn_d, rfl⟩⟩ := hp
  · -- 2 T
    refine z_if_eq (tgt := 17) hX dX5_door_5 (by decide) (fun c => absurd c (by decide)) (fun _ => ?_)
    refine z_iload_n hX dX5_door_8 rfl ?_
    refine z_bipush (v := nI 9) hX dX5_door_9 rfl ?_
    refine z_callS0 hX dX5_door_11 ms_5_48 (c_X5_isBelow _ 9 (by decide) _) (by decide) rfl rfl (Nat.le_of_ble_eq_true rfl) (fun r w1 hp _ => ?_)
    obtain ⟨rfl, ⟨⟨h, hh, rfl⟩, rfl⟩ | ⟨hn_h, rfl⟩⟩ := hp
    · -- 11 T
      refine z_if_ne (tgt := 19) hX dX5_door_14 (by decide) (fun _ => ?_) (fun c => absurd c (by decide))
      refine z_aload_n hX dX5_door_19 rfl ?_
      refine z_get hX dX5_door_20 f_5_30 rfl rfl ?_
      refine z_iload_n hX dX5_door_23 rfl ?_
      refine z_aald hX dX5_door_24 rfl (by decide) (wb_lgr (d := d) (by omega)) (Nat.le_of_ble_eq_true rfl) ?_
      refine z_iload_n hX dX5_door_25 rfl ?_
      refine z_callV hX dX5_door_26 mv_5_102 (isG d) (c_X2_move (b (29 + 7 * d)) (b (31 + 7 * d)) (b (32 + 7 * d)) (b (33 + 7 * d)) (a (34 + 7 * d)) (f (28 + 7 * d)) _) (by decide) rfl rfl (wb_subG a b f g hd) (wb_ndG hd) (Nat.le_of_ble_eq_true rfl) rfl rfl (Nat.le_of_ble_eq_true rfl) (fun r w1 hp _ => ?_)
      obtain ⟨rfl, rfl⟩ := hp
      refine z_norm (w' := WB a b (va_up f (28 + 7 * d) (va_up (va_up (f (28 + 7 * d)) 0 (nI h)) 1 (nI 0))) g) rfl rfl (wb_putG a b f g hd _) ?_
      refine z_iret hX hR dX5_door_29 ?_
      exact Or.inr ⟨d, h, hd, hh, rfl, rfl, rfl, rfl⟩
    · -- 11 F
      refine z_if_ne (tgt := 19) hX dX5_door_14 (by decide) (fun c => absurd c (by decide)) (fun _ => ?_)
      refine z_iconst (v := -1) hX dX5_door_17 rfl ?_
      refine z_iret hX hR dX5_door_18 ?_
      exact Or.inl ⟨fun q => hn_h q.2, rfl, rfl⟩
  · -- 2 F
    refine z_if_eq (tgt := 17) hX dX5_door_5 (by decide) (fun _ => ?_) (fun c => absurd c (by decide))
    refine z_iconst (v := -1) hX dX5_door_17 rfl ?_
    refine z_iret hX hR dX5_door_18 ?_
    exact Or.inl ⟨fun q => hn_d q.1, rfl, rfl⟩
set_option maxHeartbeats 4000000 in
set_option maxRecDepth 100000 in
theorem c_X5_lose (a : Nat → Nat → Int32) (b : Nat → Nat → Int64) (f : Nat → Nat → Int32) (g : Nat → Nat → Int64) (x y : Int32) (hy : y = 0 ∨ y = 1) : ∀ l, ZC l yX5_lose cX5_lose 4 (some .int) 1 [.ref 0, .int x, .int y] (WB a b f g) (fun r w' => (¬ zJ x 4 ∧ r = some (.int (-1)) ∧ w' = WB a b f g) ∨ ∃ d, d < 4 ∧ x = nI d ∧ r = some (.int (if f (28 + 7 * d) 3 = 0 then nI 0 else nI 1)) ∧ w' = WB a b (va_up f (28 + 7 * d) (va_up (f (28 + 7 * d)) 3 y)) g) := by
  intro l
  refine zc_intro (oc := 5) (by decide +kernel) rfl (Nat.le_of_ble_eq_true rfl) ?_
  intro X hX hR
  refine z_norm (ls' := [_, _, _, _]) rfl rfl rfl ?_
  refine z_iload_n hX dX5_lose_0 rfl ?_
  refine z_iconst (v := nI 4) hX dX5_lose_1 rfl ?_
  refine z_callS0 hX dX5_lose_2 ms_5_48 (c_X5_isBelow _ 4 (by decide) _) (by decide) rfl rfl (Nat.le_of_ble_eq_true rfl) (fun r w1 hp _ => ?_)
  obtain ⟨rfl, ⟨⟨d, hd, rfl⟩, rfl⟩ | ⟨hn_d, rfl⟩⟩ := hp
  · -- 2 T
    refine z_if_ne (tgt := 10) hX dX5_lose_5 (by decide) (fun _ => ?_) (fun c => absurd c (by decide))
    refine z_aload_n hX dX5_lose_10 rfl ?_
    refine z_get hX dX5_lose_11 f_5_30 rfl rfl ?_
    refine z_iload_n hX dX5_lose_14 rfl ?_
    refine z_aald hX dX5_lose_15 rfl (by decide) (wb_lgr (d := d) (by omega)) (Nat.le_of_ble_eq_true rfl) ?_
    refine z_get hX dX5_lose_16 f_5_105 (wb_lgo a b f g hd) rfl ?_
    refine z_if_eq (tgt := 26) hX dX5_lose_19 (by decide) (fun c_19 => ?_) (fun c_19 => ?_)
    · -- 19 t
      refine z_iconst (v := nI 0) hX dX5_lose_26 rfl ?_
      refine z_istore_n (ls' := [_, _, _, _]) hX dX5_lose_27 (Nat.le_of_ble_eq_true rfl) rfl ?_
      refine z_aload_n hX dX5_lose_28 rfl ?_
      refine z_get hX dX5_lose_29 f_5_30 rfl rfl ?_
      refine z_iload_n hX dX5_lose_32 rfl ?_
      refine z_aald hX dX5_lose_33 rfl (by decide) (wb_lgr (d := d) (by omega)) (Nat.le_of_ble_eq_true rfl) ?_
      refine z_iload_n hX dX5_lose_34 rfl ?_
      refine z_putz (fs' := [.ref (29 + 7 * d), .ref (30 + 7 * d), .ref (34 + 7 * d), .int ((va_up (f (28 + 7 * d)) 3 y) 0), .int ((va_up (f (28 + 7 * d)) 3 y) 1), .int ((va_up (f (28 + 7 * d)) 3 y) 2), .int ((va_up (f (28 + 7 * d)) 3 y) 3), .int ((va_up (f (28 + 7 * d)) 3 y) 4)]) (w' := WB a b (va_up f (28 + 7 * d) (va_up (f (28 + 7 * d)) 3 y)) g) hX dX5_lose_35 p_5_105 (wb_lgo a b f g hd) hy (Nat.le_of_ble_eq_true rfl) rfl (wb_lgs a b f g hd _) ?_
      refine z_iload_n hX dX5_lose_38 rfl ?_
      refine z_iret hX hR dX5_lose_39 ?_
      exact Or.inr ⟨d, hd, rfl, by rw [if_pos c_19], rfl⟩
    · -- 19 f
      refine z_iconst (v := nI 1) hX dX5_lose_22 rfl ?_
      refine z_goto (tgt := 27) hX dX5_lose_23 (by decide) ?_
      refine z_istore_n (ls' := [_, _, _, _]) hX dX5_lose_27 (Nat.le_of_ble_eq_true rfl) rfl ?_
      refine z_aload_n hX dX5_lose_28 rfl ?_
      refine z_get hX dX5_lose_29 f_5_30 rfl rfl ?_
      refine z_iload_n hX dX5_lose_32 rfl ?_
      refine z_aald hX dX5_lose_33 rfl (by decide) (wb_lgr (d := d) (by omega)) (Nat.le_of_ble_eq_true rfl) ?_
      refine z_iload_n hX dX5_lose_34 rfl ?_
      refine z_putz (fs' := [.ref (29 + 7 * d), .ref (30 + 7 * d), .ref (34 + 7 * d), .int ((va_up (f (28 + 7 * d)) 3 y) 0), .int ((va_up (f (28 + 7 * d)) 3 y) 1), .int ((va_up (f (28 + 7 * d)) 3 y) 2), .int ((va_up (f (28 + 7 * d)) 3 y) 3), .int ((va_up (f (28 + 7 * d)) 3 y) 4)]) (w' := WB a b (va_up f (28 + 7 * d) (va_up (f (28 + 7 * d)) 3 y)) g) hX dX5_lose_35 p_5_105 (wb_lgo a b f g hd) hy (Nat.le_of_ble_eq_true rfl) rfl (wb_lgs a b f g hd _) ?_
      refine z_iload_n hX dX5_lose_38 rfl ?_
      refine z_iret hX hR dX5_lose_39 ?_
      exact Or.inr ⟨d, hd, rfl, by rw [if_neg c_19], rfl⟩
  · -- 2 F
    refine z_if_ne (tgt := 10) hX dX5_lose_5 (by decide) (fun c => absurd c (by decide)) (fun _ => ?_)
    refine z_iconst (v := -1) hX dX5_lose_8 rfl ?_
    refine z_iret hX hR dX5_lose_9 ?_
    exact Or.inl ⟨hn_d, rfl, rfl⟩
set_option maxHeartbeats 4000000 in
set_option maxRecDepth 100000 in
theorem c_X5_grains (a : Nat → Nat → Int32) (b : Nat → Nat → Int64) (f : Nat → Nat → Int32) (g : Nat → Nat → Int64) (x y : Int32) : ∀ l, ZC l yX5_grains cX5_grains 3 (some .long) 1 [.ref 0, .int x, .int y] (WB a b f g) (fun r w' => w' = WB a b f g ∧ ((¬ (zJ x 3 ∧ zJ y 9) ∧ r = some (.long (-1))) ∨ ∃ s h, s < 3 ∧ h < 9 ∧ x = nI s ∧ y = nI h ∧ r = some (.long (b (17 + 4 * s) h)))) := by
  intro l
  refine zc_intro (oc := 5) (by decide +kernel) rfl (Nat.le_of_ble_eq_true rfl) ?_
  intro X hX hR
  refine z_norm (ls' := [_, _, _]) rfl rfl rfl ?_
  refine z_iload_n hX dX5_grains_0 rfl ?_
  refine z_iconst (v := nI 3) hX dX5_grains_1 rfl ?_
  refine z_callS0 hX dX5_grains_2 ms_5_48 (c_X5_isBelow _ 3 (by decide) _) (by decide) rfl rfl (Nat.le_of_ble_eq_true rfl) (fun r w1 hp _ => ?_)
  obtain ⟨rfl, ⟨⟨s, hs, rfl⟩, rfl⟩ | ⟨hn_s, rfl⟩⟩ := hp
  · -- 2 T
    refine z_if_eq (tgt := 17) hX dX5_grains_5 (by decide) (fun c => absurd c (by decide)) (fun _ => ?_)
    refine z_iload_n hX dX5_grains_8 rfl ?_
    refine z_bipush (v := nI 9) hX dX5_grains_9 rfl ?_
    refine z_callS0 hX dX5_grains_11 ms_5_48 (c_X5_isBelow _ 9 (by decide) _) (by decide) rfl rfl (Nat.le_of_ble_eq_true rfl) (fun r w1 hp _ => ?_)
    obtain ⟨rfl, ⟨⟨h, hh, rfl⟩, rfl⟩ | ⟨hn_h, rfl⟩⟩ := hp
    · -- 11 T
      refine z_if_ne (tgt := 21) hX dX5_grains_14 (by decide) (fun _ => ?_) (fun c => absurd c (by decide))
      refine z_aload_n hX dX5_grains_21 rfl ?_
      refine z_get hX dX5_grains_22 f_5_24 rfl rfl ?_
      refine z_iload_n hX dX5_grains_25 rfl ?_
      refine z_aald hX dX5_grains_26 rfl (by decide) (wb_str (s := s) (by omega)) (Nat.le_of_ble_eq_true rfl) ?_
      refine z_get hX dX5_grains_27 f_5_114 (wb_sto a b f g hs) rfl ?_
      refine z_iload_n hX dX5_grains_30 rfl ?_
      refine z_lald hX dX5_grains_31 (wb_stp a b f g hs) (by omega) (by decide) ?_
      refine z_lret hX hR dX5_grains_32 ?_
      exact ⟨rfl, Or.inr ⟨s, h, hs, hh, rfl, rfl, rfl⟩⟩
    · -- 11 F
      refine z_if_ne (tgt := 21) hX dX5_grains_14 (by decide) (fun c => absurd c (by decide)) (fun _ => ?_)
      refine z_ldc2 hX dX5_grains_17 k_5_112 ?_
      refine z_lret hX hR dX5_grains_20 ?_
      exact ⟨rfl, Or.inl ⟨fun q => hn_h q.2, rfl⟩⟩
  · -- 2 F
    refine z_if_eq (tgt := 17) hX dX5_grains_5 (by decide) (fun _ => ?_) (fun c => absurd c (by decide))
    refine z_ldc2 hX dX5_grains_17 k_5_112 ?_
    refine z_lret hX hR dX5_grains_20 ?_
    exact ⟨rfl, Or.inl ⟨fun q => hn_s q.1, rfl⟩⟩
def totC (b g : Nat → Nat → Int64) (s k : Nat) : Int64 := if k < 3 then g (15 + 4 * s) k else if k = 3 then b (17 + 4 * s) 9 else sum9 (b (17 + 4 * s)) 9
set_option maxHeartbeats 4000000 in
set_option maxRecDepth 100000 in
theorem c_X5_total (a : Nat → Nat → Int32) (b : Nat → Nat → Int64) (f : Nat → Nat → Int32) (g : Nat → Nat → Int64) (x y : Int32) : ∀ l, ZC l yX5_total cX5_total 4 (some .long) 1 [.ref 0, .int x, .int y] (WB a b f g) (fun r w' => w' = WB a b f g ∧ ((¬ (zJ x 3 ∧ zJ y 5) ∧ r = some (.long (-1))) ∨ ∃ s k, s < 3 ∧ k < 5 ∧ x = nI s ∧ y = nI k ∧ r = some (.long (totC b g s k)))) := by
  intro l
  refine zc_intro (oc := 5) (by decide +kernel) rfl (Nat.le_of_ble_eq_true rfl) ?_
  intro X hX hR
  refine z_norm (ls' := [_, _, _, _]) rfl rfl rfl ?_
  refine z_iload_n hX dX5_total_0 rfl ?_
  refine z_iconst (v := nI 3) hX dX5_total_1 rfl ?_
  refine z_callS0 hX dX5_total_2 ms_5_48 (c_X5_isBelow _ 3 (by decide) _) (by decide) rfl rfl (Nat.le_of_ble_eq_true rfl) (fun r w1 hp _ => ?_)
  obtain ⟨rfl, ⟨⟨s, hs, rfl⟩, rfl⟩ | ⟨hn_s, rfl⟩⟩ := hp
  · -- 2 T
    refine z_if_ne (tgt := 12) hX dX5_total_5 (by decide) (fun _ => ?_) (fun c => absurd c (by decide))
    refine z_aload_n hX dX5_total_12 rfl ?_
    refine z_get hX dX5_total_13 f_5_24 rfl rfl ?_
    refine z_iload_n hX dX5_total_16 rfl ?_
    refine z_aald hX dX5_total_17 rfl (by decide) (wb_str (s := s) (by omega)) (Nat.le_of_ble_eq_true rfl) ?_
    refine z_astore_n (ls' := [_, _, _, _]) hX dX5_total_18 (Nat.le_of_ble_eq_true rfl) rfl ?_
    refine z_iload_n hX dX5_total_19 rfl ?_
    by_cases hkb : zJ y 5
    obtain ⟨k, hk5, rfl⟩ := hkb
    rcases (show k = 0 ∨ k = 1 ∨ k = 2 ∨ k = 3 ∨ k = 4 by omega) with rfl | rfl | rfl | rfl | rfl
    · -- 20 case 0
      refine z_tabIn (tgt := 56) hX dX5_total_20 (by decide) (by decide) rfl (by decide) ?_
      refine z_aload_n hX dX5_total_56 rfl ?_
      refine z_get hX dX5_total_57 f_5_117 (wb_sto a b f g hs) rfl ?_
      refine z_lret hX hR dX5_total_60 ?_
      exact ⟨rfl, Or.inr ⟨s, 0, hs, by omega, rfl, rfl, rfl⟩⟩
    · -- 20 case 1
      refine z_tabIn (tgt := 61) hX dX5_total_20 (by decide) (by decide) rfl (by decide) ?_
      refine z_aload_n hX dX5_total_61 rfl ?_
      refine z_get hX dX5_total_62 f_5_121 (wb_sto a b f g hs) rfl ?_
      refine z_lret hX hR dX5_total_65 ?_
      exact ⟨rfl, Or.inr ⟨s, 1, hs, by omega, rfl, rfl, rfl⟩⟩
    · -- 20 case 2
      refine z_tabIn (tgt := 66) hX dX5_total_20 (by decide) (by decide) rfl (by decide) ?_
      refine z_aload_n hX dX5_total_66 rfl ?_
      refine z_get hX dX5_total_67 f_5_124 (wb_sto a b f g hs) rfl ?_
      refine z_lret hX hR dX5_total_70 ?_
      exact ⟨rfl, Or.inr ⟨s, 2, hs, by omega, rfl, rfl, rfl⟩⟩
    · -- 20 case 3
      refine z_tabIn (tgt := 71) hX dX5_total_20 (by decide) (by decide) rfl (by decide) ?_
      refine z_aload_n hX dX5_total_71 rfl ?_
      refine z_get hX dX5_total_72 f_5_114 (wb_sto a b f g hs) rfl ?_
      refine z_bipush (v := nI 9) hX dX5_total_75 rfl ?_
      refine z_lald hX dX5_total_77 (wb_stp a b f g hs) (by omega) (by decide) ?_
      refine z_lret hX hR dX5_total_78 ?_
      exact ⟨rfl, Or.inr ⟨s, 3, hs, by omega, rfl, rfl, rfl⟩⟩
    · -- 20 case 4
      refine z_tabIn (tgt := 79) hX dX5_total_20 (by decide) (by decide) rfl (by decide) ?_
      refine z_aload_n hX dX5_total_79 rfl ?_
      refine z_callV hX dX5_total_80 mv_5_127 (isT s) (c_X4_inBoxes (a (16 + 4 * s)) (b (17 + 4 * s)) (b (18 + 4 * s)) (f (15 + 4 * s) 0) (g (15 + 4 * s))) (by decide) rfl rfl (wb_subT a b f g hs) (wb_ndT hs) (Nat.le_of_ble_eq_true rfl) rfl rfl (Nat.le_of_ble_eq_true rfl) (fun r w1 hp _ => ?_)
      obtain ⟨rfl, rfl⟩ := hp
      refine z_norm (w' := WB a b f g) rfl rfl (by rw [wb_putT a b f g hs, va_up_id, va_up_id, va_up_id, va_up_id]) ?_
      refine z_lret hX hR dX5_total_83 ?_
      exact ⟨rfl, Or.inr ⟨s, 4, hs, by omega, rfl, rfl, rfl⟩⟩
    · -- 20 case 5
      refine z_tabOut (tgt := 84) hX dX5_total_20 (by rw [zJ_iff (by decide)] at hkb; omega) (by decide) ?_
      refine z_ldc2 hX dX5_total_84 k_5_112 ?_
      refine z_lret hX hR dX5_total_87 ?_
      exact ⟨rfl, Or.inl ⟨fun q => hkb q.2, rfl⟩⟩
  · -- 2 F
    refine z_if_ne (tgt := 12) hX dX5_total_5 (by decide) (fun c => absurd c (by decide)) (fun _ => ?_)
    refine z_ldc2 hX dX5_total_8 k_5_112 ?_
    refine z_lret hX hR dX5_total_11 ?_
    exact ⟨rfl, Or.inl ⟨fun q => hn_s q.1, rfl⟩⟩
