/-! ===== the class: hours ===== -/
theorem hrC_f {r : Int32} {tm : Nat} {a : Nat → Nat → Int32} {b : Nat → Nat → Int64} {f : Nat → Nat → Int32} {g : Nat → Nat → Int64} {a1 : Nat → Nat → Int32} {b1 : Nat → Nat → Int64} {f1 : Nat → Nat → Int32} {g1 : Nat → Nat → Int64} (h : hrC r tm a b f g a1 b1 f1 g1) (hok : okLw f) (hhm : okHm f) : okLw f1 ∧ okHm f1 ∧ f1 0 0 = nI (tm + 1) := by
  obtain ⟨b0, h1, h2⟩ := h
  refine ⟨fun d hd => ?_, fun t ht => ?_, ?_⟩
  · obtain ⟨bx, lt, cn, k1, k2, k3, k4, k5, k6, k7⟩ := hok d hd
    have h3 := ((h2.1 d hd).1 hd).2.2.2.2.2
    rw [va_up_ne _ _ (by omega), k5, k6, nI_clamp (by omega), nI_clamp (by omega)] at h3
    refine ⟨bx, (lt + 1) % 100, (if cn + 1 ≤ 100 then cn + 1 else 100), k1, by omega, by split <;> omega, ?_, ?_, ?_, ?_⟩
    · rw [h3, va_up_ne _ _ (by decide), va_up_ne _ _ (by decide)]; exact k4
    · rw [h3, va_up_ne _ _ (by decide), va_up_self]
    · rw [h3, va_up_self]
    · rw [h3, va_up_ne _ _ (by decide), va_up_ne _ _ (by decide)]; exact k7
  · rw [h2.2.2.2 _ (by omega), va_up_ne _ _ (by omega)]
    exact hhm t ht
  · rw [h2.2.2.2 0 (by omega), va_up_self, va_up_self]
def hrsC (r : Int32) (tm : Nat) (a : Nat → Nat → Int32) (b : Nat → Nat → Int64) (f : Nat → Nat → Int32) (g : Nat → Nat → Int64) : Nat → (Nat → Nat → Int32) → (Nat → Nat → Int64) → (Nat → Nat → Int32) → (Nat → Nat → Int64) → Prop
  | 0, a1, b1, f1, g1 => a1 = a ∧ b1 = b ∧ f1 = f ∧ g1 = g
  | n + 1, a1, b1, f1, g1 => ∃ a0 b0 f0 g0, hrsC r tm a b f g n a0 b0 f0 g0 ∧ hrC r (tm + n) a0 b0 f0 g0 a1 b1 f1 g1
set_option maxHeartbeats 4000000 in
set_option maxRecDepth 100000 in
theorem lp_hc_26 {X : ZX} {post : Option Value → ZW → Prop} (hX : ZOK X 5 cX5_hours 3) (hR : ZRet X (some .int) post) (a : Nat → Nat → Int32) (b : Nat → Nat → Int64) (f : Nat → Nat → Int32) (g : Nat → Nat → Int64) (r : Int32) (tm nh : Nat) (hnh : nh ≤ 50) (htm : tm + 60 < 2147483648) (hpost : ∀ a1 b1 f1 g1, hrsC r tm a b f g nh a1 b1 f1 g1 → post (some (.int (f1 0 0))) (WB a1 b1 f1 g1)) : ∀ (n k : Nat) (a1 : Nat → Nat → Int32) (b1 : Nat → Nat → Int64) (f1 : Nat → Nat → Int32) (g1 : Nat → Nat → Int64), k ≤ nh → nh < k + n → hrsC r tm a b f g k a1 b1 f1 g1 → okLw f1 → okHm f1 → f1 0 0 = nI (tm + k) → ZG X 26 [some (.ref 0), some (.int (nI nh)), some (.int r), some (.int (nI k))] [] (WB a1 b1 f1 g1) := by
  intro n
  induction n with
  | zero => intro k a1 b1 f1 g1 z1 z2; omega
  | succ n ih =>
    intro k a1 b1 f1 g1 hk1 hk2 hc hok hhm h0
    refine z_iload_n hX dX5_hours_26 rfl ?_
    refine z_iload_n hX dX5_hours_27 rfl ?_
    first | with_reducible refine z_icmp_geN (tgt := 42) hX dX5_hours_28 (by decide) (by omega) (by omega) (fun c_28 => ?_) (fun c_28 => ?_) | refine z_icmp_ge (tgt := 42) hX dX5_hours_28 (by decide) (fun c_28 => ?_) (fun c_28 => ?_)
    · -- 28 t
      have zk : k = nh := by omega
      subst zk
      refine z_aload_n hX dX5_hours_42 rfl ?_
      refine z_get hX dX5_hours_43 f_5_41 rfl rfl ?_
      refine z_iret hX hR dX5_hours_46 ?_
      exact hpost a1 b1 f1 g1 hc
    · -- 28 f
      refine z_aload_n hX dX5_hours_31 rfl ?_
      refine z_iload_n hX dX5_hours_32 rfl ?_
      refine z_callV0 hX dX5_hours_33 mv_5_108 (c_X5_passHour a1 b1 f1 g1 hok hhm (tm + k) (by omega) h0 r) (by decide) rfl rfl rfl rfl (Nat.le_of_ble_eq_true rfl) (fun r w1 hp _ => ?_)
      obtain ⟨rfl, a2, b2, f2, g2, rfl, hh⟩ := hp
      obtain ⟨q1, q2, q3⟩ := hrC_f hh hok hhm
      first | refine z_iincN (b := 1) (ls' := [_, _, _, _]) hX dX5_hours_36 rfl rfl rfl ?_ | refine z_iinc (ls' := [_, _, _, _]) hX dX5_hours_36 rfl rfl ?_
      refine z_goto (tgt := 26) hX dX5_hours_39 (by decide) ?_
      exact ih (k + 1) a2 b2 f2 g2 (by omega) (by omega) ⟨a1, b1, f1, g1, hc, hh⟩ q1 q2 q3
set_option maxHeartbeats 4000000 in
set_option maxRecDepth 100000 in
theorem c_X5_hours (a : Nat → Nat → Int32) (b : Nat → Nat → Int64) (f : Nat → Nat → Int32) (g : Nat → Nat → Int64) (hok : okLw f) (hhm : okHm f) (tm : Nat) (htm : tm + 60 < 2147483648) (h0 : f 0 0 = nI tm) (x r : Int32) : ∀ l, ZC l yX5_hours cX5_hours 4 (some .int) 3 [.ref 0, .int x, .int r] (WB a b f g) (fun r0 w' => (¬ (zB x 1 50 ∧ zB r 0 1000) ∧ r0 = some (.int (-1)) ∧ w' = WB a b f g) ∨ ∃ nh a1 b1 f1 g1, 1 ≤ nh ∧ nh ≤ 50 ∧ x = nI nh ∧ zB r 0 1000 ∧ hrsC r tm a b f g nh a1 b1 f1 g1 ∧ r0 = some (.int (f1 0 0)) ∧ w' = WB a1 b1 f1 g1) := by
  intro l
  refine zc_intro (oc := 5) (by decide +kernel) rfl (Nat.le_of_ble_eq_true rfl) ?_
  intro X hX hR
  refine z_norm (ls' := [_, _, _, _]) rfl rfl rfl ?_
  refine z_iload_n hX dX5_hours_0 rfl ?_
  refine z_iconst (v := nI 1) hX dX5_hours_1 rfl ?_
  refine z_icmp_lt (tgt := 22) hX dX5_hours_2 (by decide) (fun c_2 => ?_) (fun c_2 => ?_)
  · -- 2 t
    refine z_iconst (v := -1) hX dX5_hours_22 rfl ?_
    refine z_iret hX hR dX5_hours_23 ?_
    exact Or.inl ⟨fun q => zB_lo (l := nI 1) (by decide) c_2 q.1, rfl, rfl⟩
  · -- 2 f
    refine z_iload_n hX dX5_hours_5 rfl ?_
    refine z_bipush (v := nI 50) hX dX5_hours_6 rfl ?_
    refine z_icmp_gt (tgt := 22) hX dX5_hours_8 (by decide) (fun c_8 => ?_) (fun c_8 => ?_)
    · -- 8 t
      refine z_iconst (v := -1) hX dX5_hours_22 rfl ?_
      refine z_iret hX hR dX5_hours_23 ?_
      exact Or.inl ⟨fun q => zB_hi (h := nI 50) (by decide) (fun e => absurd c_8 (Int32.not_lt.mpr e)) q.1, rfl, rfl⟩
    · -- 8 f
      refine z_iload_n hX dX5_hours_11 rfl ?_
      refine z_if_lt (tgt := 22) hX dX5_hours_12 (by decide) (fun c_12 => ?_) (fun c_12 => ?_)
      · -- 12 t
        refine z_iconst (v := -1) hX dX5_hours_22 rfl ?_
        refine z_iret hX hR dX5_hours_23 ?_
        exact Or.inl ⟨fun q => zB_lo (by decide) c_12 q.2, rfl, rfl⟩
      · -- 12 f
        refine z_iload_n hX dX5_hours_15 rfl ?_
        refine z_sipush (v := nI 1000) hX dX5_hours_16 rfl ?_
        refine z_icmp_le (tgt := 24) hX dX5_hours_19 (by decide) (fun c_19 => ?_) (fun c_19 => ?_)
        · -- 19 t
          have hB1 : zB x 1 50 := zB_of (l := nI 1) (h := nI 50) (by decide) (by decide) c_2 (Int32.not_lt.mp c_8)
          have hB2 : zB r 0 1000 := zB_of (h := nI 1000) (by decide) (by decide) c_12 c_19
          obtain ⟨nh, hn1, hn2, rfl⟩ : ∃ nh : Nat, 1 ≤ nh ∧ nh ≤ 50 ∧ x = nI nh := by
            have h5 := hB1.1
            have h6 := hB1.2
            refine ⟨x.toInt.toNat, by omega, by omega, ?_⟩
            rw [← Int32.toInt_inj, nI_toInt (by omega)]
            omega
          refine z_iconst (v := nI 0) hX dX5_hours_24 rfl ?_
          refine z_istore_n (ls' := [_, _, _, _]) hX dX5_hours_25 (Nat.le_of_ble_eq_true rfl) rfl ?_
          exact lp_hc_26 hX hR a b f g r tm nh hn2 htm (fun a1 b1 f1 g1 e => Or.inr ⟨nh, a1, b1, f1, g1, hn1, hn2, rfl, hB2, e, rfl, rfl⟩) 51 0 a b f g (by omega) (by omega) ⟨rfl, rfl, rfl, rfl⟩ hok hhm h0
        · -- 19 f
          refine z_iconst (v := -1) hX dX5_hours_22 rfl ?_
          refine z_iret hX hR dX5_hours_23 ?_
          exact Or.inl ⟨fun q => zB_hi (by decide) c_19 q.2, rfl, rfl⟩
