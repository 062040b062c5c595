/-! ===== the class: seekCuts ===== -/
def cbI (pr : Nat → Int32) (gd : Nat → Prop) (k : Nat) (lc : Int32) (ct : Nat → Int32) : Prop := (lc = 30001 ∧ ∀ i, i < k → ¬ gd i) ∨ ∃ j, j < k ∧ gd j ∧ lc = cst pr j ∧ ct 0 = nI (j / 121) ∧ ct 1 = nI (j / 11 % 11) ∧ ct 2 = nI (j % 11) ∧ (∀ i, i < k → gd i → ¬ cst pr i < cst pr j) ∧ ∀ i, i < j → gd i → cst pr j < cst pr i
theorem cst_mul {pr : Nat → Int32} (hp : ∀ q, q < 3 → zB (pr q) 0 1000) {c0 c1 c : Nat} (h0 : c0 ≤ 10) (h1 : c1 ≤ 10) (hc : c ≤ 10) : (cst pr (121 * c0 + 11 * c1 + c)).toInt = (c0 : Int) * (pr 0).toInt + (c1 : Int) * (pr 1).toInt + (c : Int) * (pr 2).toInt := by
  rw [cst_0 hp (by omega), show (121 * c0 + 11 * c1 + c) / 121 = c0 by omega, show (121 * c0 + 11 * c1 + c) / 11 % 11 = c1 by omega, show (121 * c0 + 11 * c1 + c) % 11 = c by omega]
theorem cst_le {pr : Nat → Int32} (hp : ∀ q, q < 3 → zB (pr q) 0 1000) {c0 c1 t c : Nat} (h0 : c0 ≤ 10) (h1 : c1 ≤ 10) (hc : c ≤ 10) (ht : t ≤ c) : (cst pr (121 * c0 + 11 * c1 + t)).toInt ≤ (cst pr (121 * c0 + 11 * c1 + c)).toInt := by
  rw [cst_mul hp h0 h1 (by omega), cst_mul hp h0 h1 hc]
  have h2 := hp 2 (by omega)
  unfold zB at h2
  have := Int.mul_le_mul_of_nonneg_right (show (t : Int) ≤ (c : Int) by omega) h2.1
  omega
theorem cst_max {pr : Nat → Int32} (hp : ∀ q, q < 3 → zB (pr q) 0 1000) {c0 c1 c : Nat} (h0 : c0 ≤ 10) (h1 : c1 ≤ 10) (hc : c ≤ 10) : (cst pr (121 * c0 + 11 * c1 + c)).toInt ≤ 30000 := by
  rw [cst_mul hp h0 h1 hc]
  have g0 := hp 0 (by omega)
  have g1 := hp 1 (by omega)
  have g2 := hp 2 (by omega)
  unfold zB at g0 g1 g2
  have m0 := zmul_le (x := (c0 : Int)) (y := (pr 0).toInt) (a := 10) (b := 1000) (by omega) (by omega) (by decide) (by decide)
  have m1 := zmul_le (x := (c1 : Int)) (y := (pr 1).toInt) (a := 10) (b := 1000) (by omega) (by omega) (by decide) (by decide)
  have m2 := zmul_le (x := (c : Int)) (y := (pr 2).toInt) (a := 10) (b := 1000) (by omega) (by omega) (by decide) (by decide)
  omega
section CB
variable {pr : Nat → Int32} {gd : Nat → Prop} {c0 c1 t : Nat} {lc : Int32} {ct : Nat → Int32}
theorem cb_none (h : cbI pr gd (121 * c0 + 11 * c1) lc ct) (hn : ∀ c, c ≤ 10 → ¬ gd (121 * c0 + 11 * c1 + c)) : cbI pr gd (121 * c0 + 11 * (c1 + 1)) lc ct := by
  have key : ∀ i, i < 121 * c0 + 11 * (c1 + 1) → gd i → i < 121 * c0 + 11 * c1 := fun i hi hg => by
    rcases Nat.lt_or_ge i (121 * c0 + 11 * c1) with e | e
    · exact e
    · exact absurd (by rw [show 121 * c0 + 11 * c1 + (i - (121 * c0 + 11 * c1)) = i by omega]; exact hg) (hn (i - (121 * c0 + 11 * c1)) (by omega))
  rcases h with ⟨g1, g2⟩ | ⟨j, g1, g2, g3, g4, g5, g6, g7, g8⟩
  · exact Or.inl ⟨g1, fun i hi hg => g2 i (key i hi hg) hg⟩
  · exact Or.inr ⟨j, by omega, g2, g3, g4, g5, g6, fun i hi hg => g7 i (key i hi hg) hg, g8⟩
theorem cb_dear (hp : ∀ q, q < 3 → zB (pr q) 0 1000) (h0 : c0 ≤ 10) (h1 : c1 ≤ 10) (ht : t ≤ 10) (h : cbI pr gd (121 * c0 + 11 * c1) lc ct) (hl : ∀ c, c ≤ 10 → gd (121 * c0 + 11 * c1 + c) → t ≤ c) (hc : lc ≤ cst pr (121 * c0 + 11 * c1 + t)) : cbI pr gd (121 * c0 + 11 * (c1 + 1)) lc ct := by
  rcases h with ⟨g1, g2⟩ | ⟨j, g1, g2, g3, g4, g5, g6, g7, g8⟩
  · exfalso
    have := cst_max hp h0 h1 ht
    rw [g1, Int32.le_iff_toInt_le] at hc
    have e : (30001 : Int32).toInt = 30001 := rfl
    omega
  · refine Or.inr ⟨j, by omega, g2, g3, g4, g5, g6, fun i hi hg => ?_, g8⟩
    rcases Nat.lt_or_ge i (121 * c0 + 11 * c1) with e | e
    · exact g7 i e hg
    · have e2 : 121 * c0 + 11 * c1 + (i - (121 * c0 + 11 * c1)) = i := by omega
      have e3 := hl (i - (121 * c0 + 11 * c1)) (by omega) (by rw [e2]; exact hg)
      have e4 := cst_le hp h0 h1 (c := i - (121 * c0 + 11 * c1)) (by omega) e3
      rw [e2] at e4
      rw [g3, Int32.le_iff_toInt_le] at hc
      rw [Int32.lt_iff_toInt_lt]
      omega
theorem cb_new (hp : ∀ q, q < 3 → zB (pr q) 0 1000) (h0 : c0 ≤ 10) (h1 : c1 ≤ 10) (ht : t ≤ 10) (h : cbI pr gd (121 * c0 + 11 * c1) lc ct) (hg : gd (121 * c0 + 11 * c1 + t)) (hl : ∀ c, c ≤ 10 → gd (121 * c0 + 11 * c1 + c) → t ≤ c) (hc : ¬ lc ≤ cst pr (121 * c0 + 11 * c1 + t)) : cbI pr gd (121 * c0 + 11 * (c1 + 1)) (cst pr (121 * c0 + 11 * c1 + t)) (t3F ct (nI c0) (nI c1) (nI t)) := by
  have low : ∀ i, i < 121 * c0 + 11 * c1 → gd i → cst pr (121 * c0 + 11 * c1 + t) < cst pr i := fun i hi hgi => by
    rcases h with ⟨g1, g2⟩ | ⟨j, g1, g2, g3, g4, g5, g6, g7, g8⟩
    · exact absurd hgi (g2 i hi)
    · have := g7 i hi hgi
      rw [g3, Int32.le_iff_toInt_le] at hc
      rw [Int32.lt_iff_toInt_lt] at this ⊢
      omega
  refine Or.inr ⟨121 * c0 + 11 * c1 + t, by omega, hg, rfl, ?_, ?_, ?_, fun i hi hgi => ?_, fun i hi hgi => ?_⟩
  · rw [show (121 * c0 + 11 * c1 + t) / 121 = c0 by omega]; rfl
  · rw [show (121 * c0 + 11 * c1 + t) / 11 % 11 = c1 by omega]; rfl
  · rw [show (121 * c0 + 11 * c1 + t) % 11 = t by omega]; rfl
  · rcases Nat.lt_or_ge i (121 * c0 + 11 * c1) with e | e
    · have := low i e hgi
      rw [Int32.lt_iff_toInt_lt] at this ⊢
      omega
    · have e2 : 121 * c0 + 11 * c1 + (i - (121 * c0 + 11 * c1)) = i := by omega
      have e3 := hl (i - (121 * c0 + 11 * c1)) (by omega) (by rw [e2]; exact hgi)
      have e4 := cst_le hp h0 h1 (c := i - (121 * c0 + 11 * c1)) (by omega) e3
      rw [e2] at e4
      rw [Int32.lt_iff_toInt_lt]
      omega
  · rcases Nat.lt_or_ge i (121 * c0 + 11 * c1) with e | e
    · exact low i e hgi
    · have e2 : 121 * c0 + 11 * c1 + (i - (121 * c0 + 11 * c1)) = i := by omega
      have e3 := hl (i - (121 * c0 + 11 * c1)) (by omega) (by rw [e2]; exact hgi)
      omega
end CB
def gC (lw : Nat → Int32) (a : Nat → Nat → Int32) (b : Nat → Nat → Int64) (f : Nat → Nat → Int32) (k : Nat) : Prop := alK lw a b f (nI (k / 121)) (nI (k / 11 % 11)) (nI (k % 11)) 4
theorem gC_3 {lw : Nat → Int32} {a : Nat → Nat → Int32} {b : Nat → Nat → Int64} {f : Nat → Nat → Int32} {c0 c1 c2 : Nat} (h1 : c1 ≤ 10) (h2 : c2 ≤ 10) : gC lw a b f (121 * c0 + 11 * c1 + c2) ↔ alK lw a b f (nI c0) (nI c1) (nI c2) 4 := by
  unfold gC
  rw [show (121 * c0 + 11 * c1 + c2) / 121 = c0 by omega, show (121 * c0 + 11 * c1 + c2) / 11 % 11 = c1 by omega, show (121 * c0 + 11 * c1 + c2) % 11 = c2 by omega]
set_option maxHeartbeats 4000000 in
set_option maxRecDepth 100000 in
theorem lp_sk_28 {X : ZX} {post : Option Value → ZW → Prop} (hX : ZOK X 1 cX1_seekCuts 4) (hR : ZRet X none post) (pr ct lw : Nat → Int32) (a : Nat → Nat → Int32) (b : Nat → Nat → Int64) (f : Nat → Nat → Int32) (hokf : okF f) (lc : Int32) (c0 c1 : Nat) (K : ∀ t, t ≤ 11 → (∀ c, t ≤ c → c ≤ 10 → alK lw a b f (nI c0) (nI c1) (nI c) 4) → (∀ s, t = s + 1 → ¬ alK lw a b f (nI c0) (nI c1) (nI s) 4) → ZG X 52 [some (.ref 0), some (.ref 3), some (.int (nI c0)), some (.int (nI t)), some (.int (nI c1))] [] (WL32 pr ct (va_up lw 0 lc) a b f)) : ∀ (n t : Nat), t < n → t ≤ 11 → (∀ c, t ≤ c → c ≤ 10 → alK lw a b f (nI c0) (nI c1) (nI c) 4) → ZG X 28 [some (.ref 0), some (.ref 3), some (.int (nI c0)), some (.int (nI t)), some (.int (nI c1))] [] (WL32 pr ct (va_up lw 0 lc) a b f) := by
  intro n
  induction n with
  | zero => intro t z1; omega
  | succ n ih =>
    intro t ht1 ht2 hU
    refine z_iload_n hX dX1_seekCuts_28 rfl ?_
    refine z_if_le (tgt := 52) hX dX1_seekCuts_29 (by decide) (fun c_29 => ?_) (fun c_29 => ?_)
    · -- 29 t
      have zt : t = 0 := by
        have := (nI_leI (a := t) (b := 0) (by omega) (by omega)).mp c_29
        omega
      exact K t ht2 hU (fun s e => by omega)
    · -- 29 f
      obtain ⟨s, rfl⟩ : ∃ s, t = s + 1 := ⟨t - 1, by
        rcases Nat.eq_zero_or_pos t with e | e
        · rw [e] at c_29
          exact absurd (by decide) c_29
        · omega⟩
      refine z_aload_n hX dX1_seekCuts_32 rfl ?_
      refine z_aload_n hX dX1_seekCuts_33 rfl ?_
      refine z_iload_n hX dX1_seekCuts_34 rfl ?_
      refine z_iload hX dX1_seekCuts_35 rfl ?_
      refine z_iload_n hX dX1_seekCuts_37 rfl ?_
      refine z_iconst (v := nI 1) hX dX1_seekCuts_38 rfl ?_
      refine z_isubN hX dX1_seekCuts_39 (by omega) ?_
      refine z_top (y := nI s) (by rw [Nat.add_sub_cancel]) ?_
      refine z_callV0 hX dX1_seekCuts_40 mv_1_44 (c_X1_isKept pr ct (va_up lw 0 lc) a b f hokf _ _ _) (by decide) rfl rfl rfl rfl (Nat.le_of_ble_eq_true rfl) (fun r w1 hp _ => ?_)
      have hp : _ ∧ ((alK lw a b f (nI c0) (nI c1) (nI s) 4 ∧ r = some (.int (nI 1))) ∨ (¬ alK lw a b f (nI c0) (nI c1) (nI s) 4 ∧ r = some (.int (nI 0)))) := hp
      obtain ⟨rfl, ⟨hK1, rfl⟩ | ⟨hK1, rfl⟩⟩ := hp
      · -- 40 T
        refine z_if_eq (tgt := 52) hX dX1_seekCuts_43 (by decide) (fun c => absurd c (by decide)) (fun _ => ?_)
        first | refine z_iincD (ls' := [_, _, _, _, _]) hX dX1_seekCuts_46 rfl rfl ?_ | refine z_iinc (ls' := [_, _, _, _, _]) hX dX1_seekCuts_46 rfl rfl ?_
        refine z_goto (tgt := 28) hX dX1_seekCuts_49 (by decide) ?_
        refine ih s (by omega) (by omega) (fun c hc1 hc2 => ?_)
        rcases (show c = s ∨ s + 1 ≤ c by omega) with e | e
        · rw [e]; exact hK1
        · exact hU c e hc2
      · -- 40 F
        refine z_if_eq (tgt := 52) hX dX1_seekCuts_43 (by decide) (fun _ => ?_) (fun c => absurd c (by decide))
        exact K (s + 1) ht2 hU (fun q e => by rw [show q = s by omega]; exact hK1)
set_option maxHeartbeats 4000000 in
set_option maxRecDepth 100000 in
theorem lp_sk_21 {X : ZX} {post : Option Value → ZW → Prop} (hX : ZOK X 1 cX1_seekCuts 4) (hR : ZRet X none post) (pr ct lw : Nat → Int32) (a : Nat → Nat → Int32) (b : Nat → Nat → Int64) (f : Nat → Nat → Int32) (hokf : okF f) (hpr : ∀ q, q < 3 → zB (pr q) 0 1000) (hm1 : ∀ c0 c1 c2, c0 ≤ 10 → c1 < 10 → c2 ≤ 10 → alK lw a b f (nI c0) (nI c1) (nI c2) 4 → alK lw a b f (nI c0) (nI (c1 + 1)) (nI c2) 4) (hm2 : ∀ c0 c1 c2, c0 ≤ 10 → c1 ≤ 10 → c2 < 10 → alK lw a b f (nI c0) (nI c1) (nI c2) 4 → alK lw a b f (nI c0) (nI c1) (nI (c2 + 1)) 4) (c0 : Nat) (hc0 : c0 ≤ 10) (K : ∀ lc ct, cbI pr (gC lw a b f) (121 * c0 + 11 * 11) lc ct → ZG X 72 [some (.ref 0), some (.ref 3), some (.int (nI c0)), none, none] [] (WL32 pr ct (va_up lw 0 lc) a b f)) : ∀ (n c1 t : Nat) (lc : Int32) (ct : Nat → Int32), c1 ≤ 11 → 11 < c1 + n → t ≤ 11 → (c1 ≤ 10 → ∀ c, t ≤ c → c ≤ 10 → alK lw a b f (nI c0) (nI c1) (nI c) 4) → cbI pr (gC lw a b f) (121 * c0 + 11 * c1) lc ct → ZG X 21 [some (.ref 0), some (.ref 3), some (.int (nI c0)), some (.int (nI t)), some (.int (nI c1))] [] (WL32 pr ct (va_up lw 0 lc) a b f) := by
  intro n
  induction n with
  | zero => intro c1 t lc ct z1 z2; omega
  | succ n ih =>
    intro c1 t lc ct hc1 hc2 ht hU hcb
    refine z_iload hX dX1_seekCuts_21 rfl ?_
    refine z_bipush (v := nI 10) hX dX1_seekCuts_23 rfl ?_
    first | with_reducible refine z_icmp_gtN (tgt := 72) hX dX1_seekCuts_25 (by decide) (by omega) (by omega) (fun c_25 => ?_) (fun c_25 => ?_) | refine z_icmp_gt (tgt := 72) hX dX1_seekCuts_25 (by decide) (fun c_25 => ?_) (fun c_25 => ?_)
    · -- 25 t
      have zc : c1 = 11 := by omega
      subst zc
      refine z_forget (ls' := [some (.ref 0), some _, some _, none, none]) ⟨rfl, rfl, rfl, trivial⟩ (K lc ct hcb)
    · -- 25 f
      refine lp_sk_28 hX hR pr ct lw a b f hokf lc c0 c1 (fun t ht hU hno => ?_) 12 t (by omega) ht (hU (by omega))
      have up : ∀ (s n : Nat), s + n ≤ 10 → alK lw a b f (nI c0) (nI c1) (nI s) 4 → alK lw a b f (nI c0) (nI c1) (nI (s + n)) 4 := fun s n hsn h => by
        induction n with
        | zero => exact h
        | succ n ihn => exact hm2 c0 c1 (s + n) hc0 (by omega) (by omega) (ihn (by omega))
      have hl : ∀ c, c ≤ 10 → gC lw a b f (121 * c0 + 11 * c1 + c) → t ≤ c := fun c hc hg => by
        rcases Nat.lt_or_ge c t with e | e
        · exfalso
          have h5 := (gC_3 (by omega) hc).mp hg
          have h6 := up c (t - 1 - c) (by omega) h5
          rw [show c + (t - 1 - c) = t - 1 by omega] at h6
          exact hno (t - 1) (by omega) h6
        · exact e
      have hU2 : c1 + 1 ≤ 10 → ∀ c, t ≤ c → c ≤ 10 → alK lw a b f (nI c0) (nI (c1 + 1)) (nI c) 4 := fun h c h5 h6 => hm1 c0 c1 c hc0 (by omega) h6 (hU c h5 h6)
      refine z_iload_n hX dX1_seekCuts_52 rfl ?_
      refine z_bipush (v := nI 10) hX dX1_seekCuts_53 rfl ?_
      first | with_reducible refine z_icmp_gtN (tgt := 66) hX dX1_seekCuts_55 (by decide) (by omega) (by omega) (fun c_55 => ?_) (fun c_55 => ?_) | refine z_icmp_gt (tgt := 66) hX dX1_seekCuts_55 (by decide) (fun c_55 => ?_) (fun c_55 => ?_)
      · -- 55 t
        first | refine z_iincN (b := 1) (ls' := [_, _, _, _, _]) hX dX1_seekCuts_66 rfl rfl rfl ?_ | refine z_iinc (ls' := [_, _, _, _, _]) hX dX1_seekCuts_66 rfl rfl ?_
        refine z_goto (tgt := 21) hX dX1_seekCuts_69 (by decide) ?_
        exact ih (c1 + 1) t lc ct (by omega) (by omega) ht hU2 (cb_none hcb (fun c hc hg => by have := hl c hc hg; omega))
      · -- 55 f
        refine z_aload_n hX dX1_seekCuts_58 rfl ?_
        refine z_iload_n hX dX1_seekCuts_59 rfl ?_
        refine z_iload hX dX1_seekCuts_60 rfl ?_
        refine z_iload_n hX dX1_seekCuts_62 rfl ?_
        refine z_callV0 hX dX1_seekCuts_63 mv_1_48 (c_X1_offer pr ct (va_up lw 0 lc) a b f hokf c0 c1 t hc0 (by omega) c_55) (by decide) rfl rfl rfl rfl (Nat.le_of_ble_eq_true rfl) (fun r w1 hp _ => ?_)
        have hp : _ ∧ ((lc ≤ cst pr (121 * c0 + 11 * c1 + t) ∧ _) ∨ (¬ lc ≤ cst pr (121 * c0 + 11 * c1 + t) ∧ _)) := hp
        obtain ⟨rfl, ⟨hO, rfl⟩ | ⟨hO, rfl⟩⟩ := hp
        · -- 63 case 0
          first | refine z_iincN (b := 1) (ls' := [_, _, _, _, _]) hX dX1_seekCuts_66 rfl rfl rfl ?_ | refine z_iinc (ls' := [_, _, _, _, _]) hX dX1_seekCuts_66 rfl rfl ?_
          refine z_goto (tgt := 21) hX dX1_seekCuts_69 (by decide) ?_
          exact ih (c1 + 1) t lc ct (by omega) (by omega) ht hU2 (cb_dear hpr hc0 (by omega) c_55 hcb hl hO)
        · -- 63 case 1
          first | refine z_iincN (b := 1) (ls' := [_, _, _, _, _]) hX dX1_seekCuts_66 rfl rfl rfl ?_ | refine z_iinc (ls' := [_, _, _, _, _]) hX dX1_seekCuts_66 rfl rfl ?_
          refine z_goto (tgt := 21) hX dX1_seekCuts_69 (by decide) ?_
          exact ih (c1 + 1) t _ _ (by omega) (by omega) ht hU2 (cb_new hpr hc0 (by omega) c_55 hcb ((gC_3 (by omega) c_55).mpr (hU t (Nat.le_refl t) c_55)) hl hO)
set_option maxHeartbeats 4000000 in
set_option maxRecDepth 100000 in
theorem lp_sk_9 {X : ZX} {post : Option Value → ZW → Prop} (hX : ZOK X 1 cX1_seekCuts 4) (hR : ZRet X none post) (pr ct lw : Nat → Int32) (a : Nat → Nat → Int32) (b : Nat → Nat → Int64) (f : Nat → Nat → Int32) (hokf : okF f) (hpr : ∀ q, q < 3 → zB (pr q) 0 1000) (hm1 : ∀ c0 c1 c2, c0 ≤ 10 → c1 < 10 → c2 ≤ 10 → alK lw a b f (nI c0) (nI c1) (nI c2) 4 → alK lw a b f (nI c0) (nI (c1 + 1)) (nI c2) 4) (hm2 : ∀ c0 c1 c2, c0 ≤ 10 → c1 ≤ 10 → c2 < 10 → alK lw a b f (nI c0) (nI c1) (nI c2) 4 → alK lw a b f (nI c0) (nI c1) (nI (c2 + 1)) 4) (hpost : ∀ lc ct, cbI pr (gC lw a b f) 1331 lc ct → post none (WL32 pr ct (va_up lw 0 lc) a b f)) : ∀ (n c0 : Nat) (lc : Int32) (ct : Nat → Int32), c0 ≤ 11 → 11 < c0 + n → cbI pr (gC lw a b f) (121 * c0) lc ct → ZG X 9 [some (.ref 0), some (.ref 3), some (.int (nI c0)), none, none] [] (WL32 pr ct (va_up lw 0 lc) a b f) := by
  intro n
  induction n with
  | zero => intro c0 lc ct z1 z2; omega
  | succ n ih =>
    intro c0 lc ct hc1 hc2 hcb
    refine z_iload_n hX dX1_seekCuts_9 rfl ?_
    refine z_bipush (v := nI 10) hX dX1_seekCuts_10 rfl ?_
    first | with_reducible refine z_icmp_gtN (tgt := 78) hX dX1_seekCuts_12 (by decide) (by omega) (by omega) (fun c_12 => ?_) (fun c_12 => ?_) | refine z_icmp_gt (tgt := 78) hX dX1_seekCuts_12 (by decide) (fun c_12 => ?_) (fun c_12 => ?_)
    · -- 12 t
      have zc : c0 = 11 := by omega
      subst zc
      refine z_vret hX hR dX1_seekCuts_78 ?_
      exact hpost lc ct hcb
    · -- 12 f
      refine z_bipush (v := nI 11) hX dX1_seekCuts_15 rfl ?_
      refine z_istore_n (ls' := [_, _, _, _, _]) hX dX1_seekCuts_17 (Nat.le_of_ble_eq_true rfl) rfl ?_
      refine z_iconst (v := nI 0) hX dX1_seekCuts_18 rfl ?_
      refine z_istore (ls' := [_, _, _, _, _]) hX dX1_seekCuts_19 (Nat.le_of_ble_eq_true rfl) rfl ?_
      refine lp_sk_21 hX hR pr ct lw a b f hokf hpr hm1 hm2 c0 (by omega) (fun lc1 ct1 hcb1 => ?_) 12 0 11 lc ct (by omega) (by omega) (by omega) (fun _ c h1 h2 => by omega) hcb
      first | refine z_iincN (b := 1) (ls' := [_, _, _, _, _]) hX dX1_seekCuts_72 rfl rfl rfl ?_ | refine z_iinc (ls' := [_, _, _, _, _]) hX dX1_seekCuts_72 rfl rfl ?_
      refine z_goto (tgt := 9) hX dX1_seekCuts_75 (by decide) ?_
      exact ih (c0 + 1) lc1 ct1 (by omega) (by omega) hcb1
set_option maxHeartbeats 4000000 in
set_option maxRecDepth 100000 in
theorem c_X1_seekCuts (pr ct lw : Nat → Int32) (a : Nat → Nat → Int32) (b : Nat → Nat → Int64) (f : Nat → Nat → Int32) (hokf : okF f) (hpr : ∀ q, q < 3 → zB (pr q) 0 1000) (hm1 : ∀ c0 c1 c2, c0 ≤ 10 → c1 < 10 → c2 ≤ 10 → alK lw a b f (nI c0) (nI c1) (nI c2) 4 → alK lw a b f (nI c0) (nI (c1 + 1)) (nI c2) 4) (hm2 : ∀ c0 c1 c2, c0 ≤ 10 → c1 ≤ 10 → c2 < 10 → alK lw a b f (nI c0) (nI c1) (nI c2) 4 → alK lw a b f (nI c0) (nI c1) (nI (c2 + 1)) 4)  : ∀ l, ZC l yX1_seekCuts cX1_seekCuts 5 none 4 [.ref 0, .ref 3] (WL32 pr ct lw a b f) (fun r w' => r = none ∧ ∃ lc ct1, w' = (WL32 pr ct1 (va_up lw 0 lc) a b f) ∧ cbI pr (gC lw a b f) 1331 lc ct1) := by
  intro l
  refine zc_intro (oc := 1) (by decide +kernel) rfl (Nat.le_of_ble_eq_true rfl) ?_
  intro X hX hR
  refine z_norm (ls' := [_, _, _, _, _]) rfl rfl rfl ?_
  refine z_aload_n hX dX1_seekCuts_0 rfl ?_
  refine z_sipush (v := nI 30001) hX dX1_seekCuts_1 rfl ?_
  refine z_puti (fs' := [_, _, _, _, _]) (w' := [_, _, _, _, _, _, _, _, _, _, _, _, _, _, _, _, _, _, _, _, _, _, _, _, _, _, _, _, _, _, _, _]) hX dX1_seekCuts_4 p_1_18 rfl (Nat.le_of_ble_eq_true rfl) rfl rfl ?_
  refine z_iconst (v := nI 0) hX dX1_seekCuts_7 rfl ?_
  refine z_istore_n (ls' := [_, _, _, _, _]) hX dX1_seekCuts_8 (Nat.le_of_ble_eq_true rfl) rfl ?_
  exact lp_sk_9 hX hR pr ct lw a b f hokf hpr hm1 hm2 (fun lc ct1 e => ⟨rfl, lc, ct1, rfl, e⟩) 12 0 (nI 30001) ct (by omega) (by omega) (Or.inl ⟨rfl, fun i hi => by omega⟩)
