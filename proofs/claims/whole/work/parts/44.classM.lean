/-! ===== the class: writing at the doors, hours ===== -/
/-- a log behind an hour: f box, count, latest, lost; pl the three sources' grains -/
def wrL (bx lt cn : Nat) (pl : Nat → Nat → Int64) (nu s0 s1 s2 : Nat → Int64) (gp F : Nat → Int32) (nu1 s01 s11 s21 : Nat → Int64) (gp1 F1 : Nat → Int32) : Prop := nu1 = vp_updL (vp_updL (vp_updL (vp_updL nu ((lt + 1) % 100) 0) ((lt + 1) % 100) (0 + pl 0 bx)) ((lt + 1) % 100) (0 + pl 0 bx + pl 1 bx)) ((lt + 1) % 100) (0 + pl 0 bx + pl 1 bx + pl 2 bx) ∧ s01 = vp_updL s0 ((lt + 1) % 100) (pl 0 bx) ∧ s11 = vp_updL s1 ((lt + 1) % 100) (pl 1 bx) ∧ s21 = vp_updL s2 ((lt + 1) % 100) (pl 2 bx) ∧ gp1 = upd gp ((lt + 1) % 100) (F 3) ∧ F1 = va_up (va_up F 2 (nI ((lt + 1) % 100))) 1 (nI (if cn + 1 ≤ 100 then cn + 1 else 100))
def wrLd (a : Nat → Nat → Int32) (b : Nat → Nat → Int64) (f : Nat → Nat → Int32) (a0 : Nat → Nat → Int32) (b0 : Nat → Nat → Int64) (f0 : Nat → Nat → Int32) (e : Nat) : Prop := wrL (f (28 + 7 * e) 0).toNatClampNeg (f (28 + 7 * e) 2).toNatClampNeg (f (28 + 7 * e) 1).toNatClampNeg (fun s => b (17 + 4 * s)) (b (29 + 7 * e)) (b (31 + 7 * e)) (b (32 + 7 * e)) (b (33 + 7 * e)) (a (34 + 7 * e)) (f (28 + 7 * e)) (b0 (29 + 7 * e)) (b0 (31 + 7 * e)) (b0 (32 + 7 * e)) (b0 (33 + 7 * e)) (a0 (34 + 7 * e)) (f0 (28 + 7 * e))
def sameL (a : Nat → Nat → Int32) (b : Nat → Nat → Int64) (f : Nat → Nat → Int32) (a0 : Nat → Nat → Int32) (b0 : Nat → Nat → Int64) (f0 : Nat → Nat → Int32) (e : Nat) : Prop := b0 (29 + 7 * e) = b (29 + 7 * e) ∧ b0 (31 + 7 * e) = b (31 + 7 * e) ∧ b0 (32 + 7 * e) = b (32 + 7 * e) ∧ b0 (33 + 7 * e) = b (33 + 7 * e) ∧ a0 (34 + 7 * e) = a (34 + 7 * e) ∧ f0 (28 + 7 * e) = f (28 + 7 * e)
def hI2 (a : Nat → Nat → Int32) (b : Nat → Nat → Int64) (f : Nat → Nat → Int32) (a0 : Nat → Nat → Int32) (b0 : Nat → Nat → Int64) (f0 : Nat → Nat → Int32) (d : Nat) : Prop := (∀ e, e < 4 → (e < d → wrLd a b f a0 b0 f0 e) ∧ (d ≤ e → sameL a b f a0 b0 f0 e)) ∧ (∀ p, p < 28 ∨ 56 ≤ p → a0 p = a p) ∧ (∀ p, p < 28 ∨ 56 ≤ p → b0 p = b p) ∧ ∀ p, p < 28 ∨ 56 ≤ p → f0 p = f p
theorem hI2_0 (a : Nat → Nat → Int32) (b : Nat → Nat → Int64) (f : Nat → Nat → Int32) : hI2 a b f a b f 0 := ⟨fun e _ => ⟨fun h => by omega, fun _ => ⟨rfl, rfl, rfl, rfl, rfl, rfl⟩⟩, fun _ _ => rfl, fun _ _ => rfl, fun _ _ => rfl⟩
/-- a log's numbers as they must be -/
def okLw (f : Nat → Nat → Int32) : Prop := ∀ d, d < 4 → ∃ bx lt cn, bx < 9 ∧ lt < 100 ∧ cn ≤ 100 ∧ f (28 + 7 * d) 0 = nI bx ∧ f (28 + 7 * d) 2 = nI lt ∧ f (28 + 7 * d) 1 = nI cn ∧ (f (28 + 7 * d) 3 = 0 ∨ f (28 + 7 * d) 3 = 1)
def upA (a : Nat → Nat → Int32) (d : Nat) (gp : Nat → Int32) : Nat → Nat → Int32 := va_up a (34 + 7 * d) gp
def upB (b : Nat → Nat → Int64) (d : Nat) (nu s0 s1 s2 : Nat → Int64) : Nat → Nat → Int64 := va_up (va_up (va_up (va_up b (29 + 7 * d) nu) (31 + 7 * d) s0) (32 + 7 * d) s1) (33 + 7 * d) s2
def upF (f : Nat → Nat → Int32) (d : Nat) (F : Nat → Int32) : Nat → Nat → Int32 := va_up f (28 + 7 * d) F
theorem upA_o (a : Nat → Nat → Int32) (d : Nat) (gp : Nat → Int32) (p : Nat) (h : p ≠ 34 + 7 * d) : upA a d gp p = a p := va_up_ne _ _ h
theorem upF_o (f : Nat → Nat → Int32) (d : Nat) (F : Nat → Int32) (p : Nat) (h : p ≠ 28 + 7 * d) : upF f d F p = f p := va_up_ne _ _ h
theorem upB_o (b : Nat → Nat → Int64) (d : Nat) (nu s0 s1 s2 : Nat → Int64) (p : Nat) (h : p ≠ 29 + 7 * d ∧ p ≠ 31 + 7 * d ∧ p ≠ 32 + 7 * d ∧ p ≠ 33 + 7 * d) : upB b d nu s0 s1 s2 p = b p := by
  unfold upB
  rw [va_up_ne _ _ h.2.2.2, va_up_ne _ _ h.2.2.1, va_up_ne _ _ h.2.1, va_up_ne _ _ h.1]
theorem hI2_s {a : Nat → Nat → Int32} {b : Nat → Nat → Int64} {f : Nat → Nat → Int32} {a0 : Nat → Nat → Int32} {b0 : Nat → Nat → Int64} {f0 : Nat → Nat → Int32} {d bx lt cn : Nat} {nu s0 s1 s2 : Nat → Int64} {gp F : Nat → Int32} (hd : d < 4) (hbx : bx < 9) (hlt : lt < 100) (hcn : cn ≤ 100) (e0 : f (28 + 7 * d) 0 = nI bx) (e2 : f (28 + 7 * d) 2 = nI lt) (e1 : f (28 + 7 * d) 1 = nI cn) (hI : hI2 a b f a0 b0 f0 d) (hw : wrL bx lt cn (fun s => b0 (17 + 4 * s)) (b0 (29 + 7 * d)) (b0 (31 + 7 * d)) (b0 (32 + 7 * d)) (b0 (33 + 7 * d)) (a0 (34 + 7 * d)) (f0 (28 + 7 * d)) nu s0 s1 s2 gp F) : hI2 a b f (upA a0 d gp) (upB b0 d nu s0 s1 s2) (upF f0 d F) (d + 1) := by
  refine ⟨fun e he => ⟨fun h => ?_, fun h => ?_⟩, fun p hp => ?_, fun p hp => ?_, fun p hp => ?_⟩
  · rcases (show e < d ∨ e = d by omega) with q | q
    · have h3 := (hI.1 e he).1 q
      unfold wrLd at h3 ⊢
      rw [upB_o _ _ _ _ _ _ _ (by omega), upB_o _ _ _ _ _ _ _ (by omega), upB_o _ _ _ _ _ _ _ (by omega), upB_o _ _ _ _ _ _ _ (by omega), upA_o _ _ _ _ (by omega), upF_o _ _ _ _ (by omega)]
      exact h3
    · subst q
      obtain ⟨g1, g2, g3, g4, g5, g6⟩ := (hI.1 e he).2 (Nat.le_refl e)
      have g7 : (fun s => b0 (17 + 4 * s)) 0 = b (17 + 4 * 0) := hI.2.2.1 _ (by omega)
      have g8 : (fun s => b0 (17 + 4 * s)) 1 = b (17 + 4 * 1) := hI.2.2.1 _ (by omega)
      have g9 : (fun s => b0 (17 + 4 * s)) 2 = b (17 + 4 * 2) := hI.2.2.1 _ (by omega)
      unfold wrL at hw
      rw [g1, g2, g3, g4, g5, g6, g7, g8, g9] at hw
      unfold wrLd wrL
      rw [e0, e1, e2, nI_clamp (by omega), nI_clamp (by omega), nI_clamp (by omega)]
      have k1 : upB b0 e nu s0 s1 s2 (29 + 7 * e) = nu := by
        unfold upB
        rw [va_up_ne _ _ (by omega), va_up_ne _ _ (by omega), va_up_ne _ _ (by omega), va_up_self]
      have k2 : upB b0 e nu s0 s1 s2 (31 + 7 * e) = s0 := by
        unfold upB
        rw [va_up_ne _ _ (by omega), va_up_ne _ _ (by omega), va_up_self]
      have k3 : upB b0 e nu s0 s1 s2 (32 + 7 * e) = s1 := by
        unfold upB
        rw [va_up_ne _ _ (by omega), va_up_self]
      have k4 : upB b0 e nu s0 s1 s2 (33 + 7 * e) = s2 := va_up_self _ _ _
      have k5 : upA a0 e gp (34 + 7 * e) = gp := va_up_self _ _ _
      have k6 : upF f0 e F (28 + 7 * e) = F := va_up_self _ _ _
      rw [k1, k2, k3, k4, k5, k6]
      exact hw
  · obtain ⟨g1, g2, g3, g4, g5, g6⟩ := (hI.1 e he).2 (by omega)
    refine ⟨?_, ?_, ?_, ?_, ?_, ?_⟩
    · rw [upB_o _ _ _ _ _ _ _ (by omega)]; exact g1
    · rw [upB_o _ _ _ _ _ _ _ (by omega)]; exact g2
    · rw [upB_o _ _ _ _ _ _ _ (by omega)]; exact g3
    · rw [upB_o _ _ _ _ _ _ _ (by omega)]; exact g4
    · rw [upA_o _ _ _ _ (by omega)]; exact g5
    · rw [upF_o _ _ _ _ (by omega)]; exact g6
  · rw [upA_o _ _ _ _ (by omega)]
    exact hI.2.1 p hp
  · rw [upB_o _ _ _ _ _ _ _ (by omega)]
    exact hI.2.2.1 p hp
  · rw [upF_o _ _ _ _ (by omega)]
    exact hI.2.2.2 p hp
set_option maxHeartbeats 4000000 in
set_option maxRecDepth 100000 in
theorem lp_ph_71 {X : ZX} {post : Option Value → ZW → Prop} (hX : ZOK X 5 cX5_passHour 2) (hR : ZRet X none post) (a : Nat → Nat → Int32) (b : Nat → Nat → Int64) (f : Nat → Nat → Int32) (g : Nat → Nat → Int64) (r h24 : Int32) (hok : okLw f) (hpost : ∀ a0 b0 f0, hI2 a b f a0 b0 f0 4 → post none (WB a0 b0 f0 g)) : ∀ (n d : Nat) (a0 : Nat → Nat → Int32) (b0 : Nat → Nat → Int64) (f0 : Nat → Nat → Int32), d ≤ 4 → 4 < d + n → hI2 a b f a0 b0 f0 d → ZG X 71 [some (.ref 0), some (.int r), some (.int h24), some (.int (nI d))] [] (WB a0 b0 f0 g) := by
  intro n
  induction n with
  | zero => intro d a0 b0 f0 z1 z2; omega
  | succ n ih =>
    intro d a0 b0 f0 hd1 hd2 hI
    refine z_iload_n hX dX5_passHour_71 rfl ?_
    refine z_iconst (v := nI 4) hX dX5_passHour_72 rfl ?_
    first | with_reducible refine z_icmp_geN (tgt := 95) hX dX5_passHour_73 (by decide) (by omega) (by omega) (fun c_73 => ?_) (fun c_73 => ?_) | refine z_icmp_ge (tgt := 95) hX dX5_passHour_73 (by decide) (fun c_73 => ?_) (fun c_73 => ?_)
    · -- 73 t
      have zd : d = 4 := by omega
      subst zd
      refine z_vret hX hR dX5_passHour_95 ?_
      exact hpost a0 b0 f0 hI
    · -- 73 f
      have hd : d < 4 := c_73
      obtain ⟨bx, lt, cn, hbx, hlt, hcn, e0, e2, e1, e3⟩ := hok d hd
      have e6 := ((hI.1 d hd).2 (Nat.le_refl d)).2.2.2.2.2
      refine z_aload_n hX dX5_passHour_76 rfl ?_
      refine z_get hX dX5_passHour_77 f_5_30 rfl rfl ?_
      refine z_iload_n hX dX5_passHour_80 rfl ?_
      refine z_aald hX dX5_passHour_81 rfl (by decide) (wb_lgr (d := d) (by omega)) (Nat.le_of_ble_eq_true rfl) ?_
      refine z_aload_n hX dX5_passHour_82 rfl ?_
      refine z_get hX dX5_passHour_83 f_5_24 rfl rfl ?_
      refine z_callV hX dX5_passHour_86 mv_5_206 (isG2 d) (c_X2_write (b0 (29 + 7 * d)) (b0 (31 + 7 * d)) (b0 (32 + 7 * d)) (b0 (33 + 7 * d)) (a0 (34 + 7 * d)) (f0 (28 + 7 * d)) lt hlt (by rw [e6]; exact e2) cn hcn (by rw [e6]; exact e1) bx hbx (by rw [e6]; exact e0) (by rw [e6]; exact e3) (fun s => a0 (16 + 4 * s)) (fun s => b0 (17 + 4 * s)) (fun s => b0 (18 + 4 * s)) (fun s => f0 (15 + 4 * s) 0) (fun s => g (15 + 4 * s))) (by decide) rfl rfl (wb_subG2 a0 b0 f0 g hd) (wb_ndG2 hd) (Nat.le_of_ble_eq_true rfl) rfl rfl (Nat.le_of_ble_eq_true rfl) (fun r0 w1 hp _ => ?_)
      obtain ⟨rfl, rfl⟩ := hp
      refine z_norm (w' := WB (upA a0 d _) (upB b0 d _ _ _ _) (upF f0 d _) g) rfl rfl (wb_putG2 a0 b0 f0 g hd _ _ _ _ _ _) ?_
      first | refine z_iincN (b := 1) (ls' := [_, _, _, _]) hX dX5_passHour_89 rfl rfl rfl ?_ | refine z_iinc (ls' := [_, _, _, _]) hX dX5_passHour_89 rfl rfl ?_
      refine z_goto (tgt := 71) hX dX5_passHour_92 (by decide) ?_
      exact ih (d + 1) _ _ _ (by omega) (by omega) (hI2_s hd hbx hlt hcn e0 e2 e1 hI ⟨rfl, rfl, rfl, rfl, rfl, rfl⟩)
/-- an hour of the class -/
def hrC (r : Int32) (tm : Nat) (a : Nat → Nat → Int32) (b : Nat → Nat → Int64) (f : Nat → Nat → Int32) (g : Nat → Nat → Int64) (a1 : Nat → Nat → Int32) (b1 : Nat → Nat → Int64) (f1 : Nat → Nat → Int32) (g1 : Nat → Nat → Int64) : Prop := ∃ b0, hI1 a f r (tm % 24) b g b0 g1 3 ∧ hI2 a b0 (va_up f 0 (va_up (f 0) 0 (nI (tm + 1)))) a1 b1 f1 4
def okHm (f : Nat → Nat → Int32) : Prop := ∀ t, t < 3 → ∃ h, h < 9 ∧ f (15 + 4 * t) 0 = nI h
set_option maxHeartbeats 4000000 in
set_option maxRecDepth 100000 in
theorem c_X5_passHour (a : Nat → Nat → Int32) (b : Nat → Nat → Int64) (f : Nat → Nat → Int32) (g : Nat → Nat → Int64) (hok : okLw f) (hhm : okHm f) (tm : Nat) (htm : tm + 1 < 2147483648) (h0 : f 0 0 = nI tm) (r : Int32) : ∀ l, ZC l yX5_passHour cX5_passHour 4 none 2 [.ref 0, .int r] (WB a b f g) (fun r0 w' => r0 = none ∧ ∃ a1 b1 f1 g1, w' = WB a1 b1 f1 g1 ∧ hrC r tm a b f g a1 b1 f1 g1) := by
  intro l
  refine zc_intro (oc := 5) (by decide +kernel) rfl (Nat.le_of_ble_eq_true rfl) ?_
  intro X hX hR
  refine z_norm (ls' := [_, _, _, _]) rfl rfl rfl ?_
  refine z_aload_n hX dX5_passHour_0 rfl ?_
  refine z_get hX dX5_passHour_1 f_5_41 rfl rfl ?_
  refine z_top h0 ?_
  refine z_bipush (v := nI 24) hX dX5_passHour_4 rfl ?_
  refine z_callS0 hX dX5_passHour_6 ms_5_190 (c_J_fmod tm (by omega) _) (by decide) rfl rfl (Nat.le_of_ble_eq_true rfl) (fun r w1 hp _ => ?_)
  obtain ⟨rfl, rfl⟩ := hp
  refine z_istore_n (ls' := [_, _, _, _]) hX dX5_passHour_9 (Nat.le_of_ble_eq_true rfl) rfl ?_
  refine z_iconst (v := nI 0) hX dX5_passHour_10 rfl ?_
  refine z_istore_n (ls' := [_, _, _, _]) hX dX5_passHour_11 (Nat.le_of_ble_eq_true rfl) rfl ?_
  refine lp_ph_12 hX hR a b f g r (tm % 24) (by omega) hhm (fun b1 g1 hI => ?_) 4 0 b g (by omega) (by omega) ⟨fun t ht => ⟨fun h => by omega, fun _ => ⟨rfl, rfl⟩⟩, fun p _ => rfl⟩
  refine z_aload_n hX dX5_passHour_59 rfl ?_
  refine z_dup hX dX5_passHour_60 rfl ?_
  refine z_get hX dX5_passHour_61 f_5_41 rfl rfl ?_
  refine z_top h0 ?_
  refine z_iconst (v := nI 1) hX dX5_passHour_64 rfl ?_
  first | with_reducible refine z_iaddN hX dX5_passHour_65 ?_ | refine z_iadd hX dX5_passHour_65 ?_
  refine z_puti (fs' := [_, _, _, _, _, _]) (w' := [_, _, _, _, _, _, _, _, _, _, _, _, _, _, _, _, _, _, _, _, _, _, _, _, _, _, _, _, _, _, _, _, _, _, _, _, _, _, _, _, _, _, _, _, _, _, _, _, _, _, _, _, _, _, _, _, _, _, _]) hX dX5_passHour_66 p_5_41 rfl (Nat.le_of_ble_eq_true rfl) rfl rfl ?_
  refine z_iconst (v := nI 0) hX dX5_passHour_69 rfl ?_
  refine z_istore_n (ls' := [_, _, _, _]) hX dX5_passHour_70 (Nat.le_of_ble_eq_true rfl) rfl ?_
  refine z_norm (w' := WB a b1 (va_up f 0 (va_up (f 0) 0 (nI (tm + 1)))) g1) rfl rfl rfl ?_
  exact lp_ph_71 hX hR a b1 (va_up f 0 (va_up (f 0) 0 (nI (tm + 1)))) g1 r _ (fun d hd => by rw [va_up_ne _ _ (by omega)]; exact hok d hd) (fun a2 b2 f2 hI2 => ⟨rfl, a2, b2, f2, g1, rfl, b1, hI, hI2⟩) 5 0 a b1 _ (by omega) (by omega) (hI2_0 _ _ _)
