/-! ===== the class: an hour ===== -/
def p1F (pl : Nat → Int64) (hm : Nat) (rt : Int32) : Nat → Int64 := vp_updL pl hm (pl hm + rt.toInt64)
def p2F (pl : Nat → Int64) (hm : Nat) (rt r : Int32) (q : Nat) : Int64 := if q < 9 then p1F pl hm rt q - (washF (p1F pl hm rt q) r + laidF (p1F pl hm rt q) r) else p1F pl hm rt q
def stH (nt : Nat → Int64) (hm : Nat) (rt r : Int32) (pl G pl1 G1 : Nat → Int64) : Prop := (∀ q, q < 10 → pl1 q = accC (p2F pl hm rt r) nt q 24 (p2F pl hm rt r q)) ∧ G1 0 = G 0 + rt.toInt64 ∧ G1 1 = accA (fun x => washF (p1F pl hm rt x) r) 9 (G 1) ∧ G1 2 = accA (fun x => laidF (p1F pl hm rt x) r) 9 (G 2)
def hI1 (a : Nat → Nat → Int32) (f : Nat → Nat → Int32) (r : Int32) (k : Nat) (b g b0 g0 : Nat → Nat → Int64) (s : Nat) : Prop := (∀ t, t < 3 → (t < s → stH (b 4) (f (15 + 4 * t) 0).toNatClampNeg (a (16 + 4 * t) k) r (b (17 + 4 * t)) (g (15 + 4 * t)) (b0 (17 + 4 * t)) (g0 (15 + 4 * t))) ∧ (s ≤ t → b0 (17 + 4 * t) = b (17 + 4 * t) ∧ g0 (15 + 4 * t) = g (15 + 4 * t))) ∧ ∀ p, p < 15 ∨ 27 ≤ p → b0 p = b p
theorem wb_putT1 (a : Nat → Nat → Int32) (b : Nat → Nat → Int64) (f : Nat → Nat → Int32) (g : Nat → Nat → Int64) {s : Nat} (h : s < 3) (pl bf G : Nat → Int64) : zput (zg (isT s)) (isT s) (WB a b f g) (WSt (a (16 + 4 * s)) pl bf (f (15 + 4 * s) 0) G []) = WB a (va_up (va_up b (17 + 4 * s) pl) (18 + 4 * s) bf) f (va_up g (15 + 4 * s) G) := by rw [wb_putT a b f g h, va_up_id]
theorem wb_putTn1 (a : Nat → Nat → Int32) (b : Nat → Nat → Int64) (f : Nat → Nat → Int32) (g : Nat → Nat → Int64) {s : Nat} (h : s < 3) (pl bf G : Nat → Int64) : zput (zg (isT1 s 4)) (isT1 s 4) (WB a b f g) (WSt (a (16 + 4 * s)) pl bf (f (15 + 4 * s) 0) G [.inl (1, 24, .inr (b 4))]) = WB a (va_up (va_up b (17 + 4 * s) pl) (18 + 4 * s) bf) f (va_up g (15 + 4 * s) G) := by
  rw [wb_putTn a b f g h, va_up_id, show b 4 = va_up (va_up b (17 + 4 * s) pl) (18 + 4 * s) bf 4 by rw [va_up_ne _ _ (by omega), va_up_ne _ _ (by omega)], va_up_id]
theorem up2_17 (b : Nat → Nat → Int64) (s : Nat) (x y : Nat → Int64) : va_up (va_up b (17 + 4 * s) x) (18 + 4 * s) y (17 + 4 * s) = x := by rw [va_up_ne _ _ (by omega), va_up_self]
theorem up2_o (b : Nat → Nat → Int64) (s p : Nat) (x y : Nat → Int64) (h : p ≠ 17 + 4 * s) (h2 : p ≠ 18 + 4 * s) : va_up (va_up b (17 + 4 * s) x) (18 + 4 * s) y p = b p := by rw [va_up_ne _ _ h2, va_up_ne _ _ h]
theorem hI1_s {a : Nat → Nat → Int32} {f : Nat → Nat → Int32} {r : Int32} {k : Nat} {b g b0 g0 b3 g3 : Nat → Nat → Int64} {s hm : Nat} (hs : s < 3) (hhm : f (15 + 4 * s) 0 = nI hm) (hm9 : hm < 9) (hI : hI1 a f r k b g b0 g0 s) (h1 : stH (b0 4) hm (a (16 + 4 * s) k) r (b0 (17 + 4 * s)) (g0 (15 + 4 * s)) (b3 (17 + 4 * s)) (g3 (15 + 4 * s))) (h2 : ∀ p, p ≠ 17 + 4 * s → p ≠ 18 + 4 * s → b3 p = b0 p) (h3 : ∀ p, p ≠ 15 + 4 * s → g3 p = g0 p) : hI1 a f r k b g b3 g3 (s + 1) := by
  refine ⟨fun t ht => ⟨fun h => ?_, fun h => ?_⟩, fun p hp => ?_⟩
  · rcases (show t < s ∨ t = s by omega) with e | e
    · rw [h2 _ (by omega) (by omega), h3 _ (by omega)]
      exact (hI.1 t ht).1 e
    · subst e
      have h4 := (hI.1 t ht).2 (Nat.le_refl t)
      rw [h4.1, h4.2, hI.2 4 (by omega)] at h1
      rw [hhm, nI_clamp (by omega)]
      exact h1
  · rw [h2 _ (by omega) (by omega), h3 _ (by omega)]
    exact (hI.1 t ht).2 (by omega)
  · rw [h2 p (by omega) (by omega)]
    exact hI.2 p hp
set_option maxHeartbeats 4000000 in
set_option maxRecDepth 100000 in
theorem lp_ph_12 {X : ZX} {post : Option Value → ZW → Prop} (hX : ZOK X 5 cX5_passHour 2) (hR : ZRet X none post) (a : Nat → Nat → Int32) (b : Nat → Nat → Int64) (f : Nat → Nat → Int32) (g : Nat → Nat → Int64) (r : Int32) (k : Nat) (hk : k < 24) (hhm : ∀ t, t < 3 → ∃ h, h < 9 ∧ f (15 + 4 * t) 0 = nI h) (K : ∀ b1 g1, hI1 a f r k b g b1 g1 3 → ZG X 59 [some (.ref 0), some (.int r), some (.int (nI k)), none] [] (WB a b1 f g1)) : ∀ (n s : Nat) (b0 g0 : Nat → Nat → Int64), s ≤ 3 → 3 < s + n → hI1 a f r k b g b0 g0 s → ZG X 12 [some (.ref 0), some (.int r), some (.int (nI k)), some (.int (nI s))] [] (WB a b0 f g0) := by
  intro n
  induction n with
  | zero => intro s b0 g0 z1 z2; omega
  | succ n ih =>
    intro s b0 g0 hs1 hs2 hI
    refine z_iload_n hX dX5_passHour_12 rfl ?_
    refine z_iconst (v := nI 3) hX dX5_passHour_13 rfl ?_
    first | with_reducible refine z_icmp_geN (tgt := 59) hX dX5_passHour_14 (by decide) (by omega) (by omega) (fun c_14 => ?_) (fun c_14 => ?_) | refine z_icmp_ge (tgt := 59) hX dX5_passHour_14 (by decide) (fun c_14 => ?_) (fun c_14 => ?_)
    · -- 14 t
      have zs : s = 3 := by omega
      subst zs
      refine z_forget (ls' := [some (.ref 0), some _, some _, none]) ⟨rfl, rfl, rfl, trivial⟩ (K b0 g0 hI)
    · -- 14 f
      have hs : s < 3 := c_14
      obtain ⟨hm, hm9, hm1⟩ := hhm s hs
      refine z_aload_n hX dX5_passHour_17 rfl ?_
      refine z_get hX dX5_passHour_18 f_5_24 rfl rfl ?_
      refine z_iload_n hX dX5_passHour_21 rfl ?_
      refine z_aald hX dX5_passHour_22 rfl (by decide) (wb_str (s := s) (by omega)) (Nat.le_of_ble_eq_true rfl) ?_
      refine z_iload_n hX dX5_passHour_23 rfl ?_
      refine z_callV hX dX5_passHour_24 mv_5_196 (isT s) (c_X4_giveOff (a (16 + 4 * s)) (b0 (17 + 4 * s)) (b0 (18 + 4 * s)) (f (15 + 4 * s) 0) (g0 (15 + 4 * s)) k hm hk hm9 hm1) (by decide) rfl rfl (wb_subT a b0 f g0 hs) (wb_ndT hs) (Nat.le_of_ble_eq_true rfl) rfl rfl (Nat.le_of_ble_eq_true rfl) (fun r0 w1 hp _ => ?_)
      obtain ⟨rfl, rfl⟩ := hp
      refine z_norm (w' := WB a (va_up (va_up b0 (17 + 4 * s) (p1F (b0 (17 + 4 * s)) hm (a (16 + 4 * s) k))) (18 + 4 * s) (b0 (18 + 4 * s))) f (va_up g0 (15 + 4 * s) (va_up (g0 (15 + 4 * s)) 0 (g0 (15 + 4 * s) 0 + (a (16 + 4 * s) k).toInt64)))) rfl rfl (wb_putT1 a b0 f g0 hs _ _ _) ?_
      generalize hb1 : (va_up (va_up b0 (17 + 4 * s) (p1F (b0 (17 + 4 * s)) hm (a (16 + 4 * s) k))) (18 + 4 * s) (b0 (18 + 4 * s))) = b1
      generalize hg1 : (va_up g0 (15 + 4 * s) (va_up (g0 (15 + 4 * s)) 0 (g0 (15 + 4 * s) 0 + (a (16 + 4 * s) k).toInt64))) = g1
      have x1 : b1 (17 + 4 * s) = p1F (b0 (17 + 4 * s)) hm (a (16 + 4 * s) k) := by rw [← hb1, up2_17]
      have x2 : ∀ p, p ≠ 17 + 4 * s → p ≠ 18 + 4 * s → b1 p = b0 p := fun p q1 q2 => by rw [← hb1, up2_o _ _ _ _ _ q1 q2]
      have x3 : g1 (15 + 4 * s) = va_up (g0 (15 + 4 * s)) 0 (g0 (15 + 4 * s) 0 + (a (16 + 4 * s) k).toInt64) := by rw [← hg1, va_up_self]
      have x4 : ∀ p, p ≠ 15 + 4 * s → g1 p = g0 p := fun p q1 => by rw [← hg1, va_up_ne _ _ q1]
      refine z_aload_n hX dX5_passHour_27 rfl ?_
      refine z_get hX dX5_passHour_28 f_5_24 rfl rfl ?_
      refine z_iload_n hX dX5_passHour_31 rfl ?_
      refine z_aald hX dX5_passHour_32 rfl (by decide) (wb_str (s := s) (by omega)) (Nat.le_of_ble_eq_true rfl) ?_
      refine z_iload_n hX dX5_passHour_33 rfl ?_
      refine z_callV hX dX5_passHour_34 mv_5_199 (isT s) (c_X4_fallOut (a (16 + 4 * s)) (b1 (17 + 4 * s)) (b1 (18 + 4 * s)) (f (15 + 4 * s) 0) (g1 (15 + 4 * s)) r) (by decide) rfl rfl (wb_subT a b1 f g1 hs) (wb_ndT hs) (Nat.le_of_ble_eq_true rfl) rfl rfl (Nat.le_of_ble_eq_true rfl) (fun r0 w1 hp _ => ?_)
      obtain ⟨rfl, pl2, G2, rfl, y1, y2, y3, y4⟩ := hp
      refine z_norm (w' := WB a (va_up (va_up b1 (17 + 4 * s) pl2) (18 + 4 * s) (b1 (18 + 4 * s))) f (va_up g1 (15 + 4 * s) G2)) rfl rfl (wb_putT1 a b1 f g1 hs _ _ _) ?_
      generalize hb2 : va_up (va_up b1 (17 + 4 * s) pl2) (18 + 4 * s) (b1 (18 + 4 * s)) = b2
      generalize hg2 : va_up g1 (15 + 4 * s) G2 = g2
      have u1 : b2 (17 + 4 * s) = pl2 := by rw [← hb2, up2_17]
      have u2 : ∀ p, p ≠ 17 + 4 * s → p ≠ 18 + 4 * s → b2 p = b1 p := fun p q1 q2 => by rw [← hb2, up2_o _ _ _ _ _ q1 q2]
      have u3 : g2 (15 + 4 * s) = G2 := by rw [← hg2, va_up_self]
      have u4 : ∀ p, p ≠ 15 + 4 * s → g2 p = g1 p := fun p q1 => by rw [← hg2, va_up_ne _ _ q1]
      refine z_aload_n hX dX5_passHour_37 rfl ?_
      refine z_get hX dX5_passHour_38 f_5_24 rfl rfl ?_
      refine z_iload_n hX dX5_passHour_41 rfl ?_
      refine z_aald hX dX5_passHour_42 rfl (by decide) (wb_str (s := s) (by omega)) (Nat.le_of_ble_eq_true rfl) ?_
      refine z_aload_n hX dX5_passHour_43 rfl ?_
      refine z_get hX dX5_passHour_44 f_5_12 rfl rfl ?_
      refine z_get hX dX5_passHour_47 f_5_63 rfl rfl ?_
      refine z_callV hX dX5_passHour_50 mv_5_202 (isT1 s 4) (c_X4_blow (a (16 + 4 * s)) (b2 (17 + 4 * s)) (b2 (18 + 4 * s)) (f (15 + 4 * s) 0) (g2 (15 + 4 * s)) (b2 4)) (by decide) rfl rfl (wb_subTn a b2 f g2 hs) (wb_ndTn hs) (Nat.le_of_ble_eq_true rfl) rfl rfl (Nat.le_of_ble_eq_true rfl) (fun r0 w1 hp _ => ?_)
      obtain ⟨rfl, pl3, bf3, rfl, v1⟩ := hp
      refine z_norm (w' := WB a (va_up (va_up b2 (17 + 4 * s) pl3) (18 + 4 * s) bf3) f (va_up g2 (15 + 4 * s) (g2 (15 + 4 * s)))) rfl rfl (wb_putTn1 a b2 f g2 hs _ _ _) ?_
      first | refine z_iincN (b := 1) (ls' := [_, _, _, _]) hX dX5_passHour_53 rfl rfl rfl ?_ | refine z_iinc (ls' := [_, _, _, _]) hX dX5_passHour_53 rfl rfl ?_
      refine z_goto (tgt := 12) hX dX5_passHour_56 (by decide) ?_
      have hp2 : pl2 = p2F (b0 (17 + 4 * s)) hm (a (16 + 4 * s) k) r := by
        funext q
        rw [y1 q, x1]
        rfl
      refine ih (s + 1) _ _ (by omega) (by omega) (hI1_s hs hm1 hm9 hI ⟨fun q hq => ?_, ?_, ?_, ?_⟩ (fun p q1 q2 => by rw [up2_o _ _ _ _ _ q1 q2, u2 p q1 q2, x2 p q1 q2]) (fun p q1 => by rw [va_up_ne _ _ q1, u4 p q1, x4 p q1]))
      · rw [up2_17, v1 q hq, u1, hp2, u2 4 (by omega) (by omega), x2 4 (by omega) (by omega)]
      · rw [va_up_self, u3, y2, x3]
        rfl
      · rw [va_up_self, u3, y3, x1, x3]
        rfl
      · rw [va_up_self, u3, y4, x1, x3]
        rfl
