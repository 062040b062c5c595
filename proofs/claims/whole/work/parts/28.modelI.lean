/-! ===== the reference: hours ===== -/
abbrev Hq : Type := (Nat → Int64) × (Nat → Int64) × (Nat → Int64) × (Nat → Int32)
def cyS (st : Nat → Int64) (a7 a8 : Nat → Int32) (r : Int32) (tm : Nat) (s : Nat) (q : (Nat → Int64) × (Nat → Int64)) : (Nat → Int64) × (Nat → Int64) := (cyG st q.1 s (a7 s).toNatClampNeg (a8 (24 * s + tm % 24)) r, cyT st q.1 q.2 s (a7 s).toNatClampNeg (a8 (24 * s + tm % 24)) r)
def wrQ (a12 a13 : Nat → Int32) (g : Nat → Int64) (d : Nat) (q : (Nat → Int64) × (Nat → Int32)) : (Nat → Int64) × (Nat → Int32) := (wrS q.1 g (a13 d) d (a12 d).toNatClampNeg (q.2 d).toNatClampNeg, wrM q.2 d (q.2 d).toNatClampNeg)
def hrQ (st : Nat → Int64) (a7 a8 a12 a13 : Nat → Int32) (r : Int32) (tm : Nat) (q : Hq) : Hq := ((zfold (cyS st a7 a8 r tm) 3 (q.1, q.2.1)).1, (zfold (cyS st a7 a8 r tm) 3 (q.1, q.2.1)).2, (zfold (wrQ a12 a13 (zfold (cyS st a7 a8 r tm) 3 (q.1, q.2.1)).1) 4 (q.2.2.1, q.2.2.2)).1, (zfold (wrQ a12 a13 (zfold (cyS st a7 a8 r tm) 3 (q.1, q.2.1)).1) 4 (q.2.2.1, q.2.2.2)).2)
def hrsQ (st : Nat → Int64) (a7 a8 a12 a13 : Nat → Int32) (r : Int32) (tm n : Nat) (q : Hq) : Hq := zfold (fun j q => hrQ st a7 a8 a12 a13 r (tm + j) q) n q
theorem hrsQ_s (st : Nat → Int64) (a7 a8 a12 a13 : Nat → Int32) (r : Int32) (tm n : Nat) (q : Hq) : hrsQ st a7 a8 a12 a13 r tm (n + 1) q = hrQ st a7 a8 a12 a13 r (tm + n) (hrsQ st a7 a8 a12 a13 r tm n q) := rfl
def okM (m : Nat → Int32) : Prop := ∀ d, d < 4 → ∃ e, e ≤ 100 ∧ m d = nI e
theorem okM_wr {m : Nat → Int32} (h : okM m) {d e : Nat} (he : e ≤ 100) : okM (wrM m d e) := by
  intro x hx
  unfold wrM wrE
  by_cases e1 : x = d
  · rw [if_pos e1]
    exact ⟨_, by split <;> omega, rfl⟩
  · rw [if_neg e1]
    exact h x hx
set_option maxHeartbeats 4000000 in
set_option maxRecDepth 100000 in
theorem lp_hr_40 {X : ZX} {post : Option Value → ZW → Prop} (hX : ZOK X 6 cX6_hours 5) (hR : ZRet X (some .int) post) (a : Nat → Nat → Int32) (b : Nat → Nat → Int64) (c : Nat → Int32) (x r : Int32) (k tm : Nat) (htm : tm < 2147483648) (hc : c 0 = nI tm) (h7 : ∀ s, s < 3 → ∃ hm, hm < 9 ∧ a 7 s = nI hm) (K : ∀ b1, (b1 9, b1 10) = zfold (cyS (stillF (a 1) (b 3)) (a 7) (a 8) r tm) 3 (b 9, b 10) → (∀ q, q ≠ 9 → q ≠ 10 → q ≠ 11 → b1 q = b q) → ZG X 59 [some (.ref 0), some (.int x), some (.int r), some (.int (nI k)), none] [] (WM a b1 c)) : ∀ (n s : Nat) (b1 : Nat → Nat → Int64), s ≤ 3 → 3 < s + n → (b1 9, b1 10) = zfold (cyS (stillF (a 1) (b 3)) (a 7) (a 8) r tm) s (b 9, b 10) → (∀ q, q ≠ 9 → q ≠ 10 → q ≠ 11 → b1 q = b q) → ZG X 40 [some (.ref 0), some (.int x), some (.int r), some (.int (nI k)), some (.int (nI s))] [] (WM a b1 c) := by
  intro n
  induction n with
  | zero => intro s b1 z1 z2; omega
  | succ n ih =>
    intro s b1 hs1 hs2 hq1 hq2
    refine z_iload hX dX6_hours_40 rfl ?_
    refine z_iconst (v := nI 3) hX dX6_hours_42 rfl ?_
    first | with_reducible refine z_icmp_geN (tgt := 59) hX dX6_hours_43 (by decide) (by omega) (by omega) (fun c_43 => ?_) (fun c_43 => ?_) | refine z_icmp_ge (tgt := 59) hX dX6_hours_43 (by decide) (fun c_43 => ?_) (fun c_43 => ?_)
    · -- 43 t
      have zs : s = 3 := by omega
      subst zs
      refine z_forget (ls' := [some (.ref 0), some (.int x), some (.int r), some (.int (nI k)), none]) ⟨rfl, rfl, rfl, rfl, trivial⟩ (K b1 hq1 hq2)
    · -- 43 f
      refine z_aload_n hX dX6_hours_46 rfl ?_
      refine z_iload hX dX6_hours_47 rfl ?_
      refine z_iload_n hX dX6_hours_49 rfl ?_
      obtain ⟨hm, hm1, hm2⟩ := h7 s (by omega)
      refine z_callV0 hX dX6_hours_50 mv_6_137 (c_X6_carry a b1 c s hm tm (by omega) hm1 htm hc hm2 r) (by decide) rfl rfl rfl rfl (Nat.le_of_ble_eq_true rfl) (fun r w1 hp _ => ?_)
      obtain ⟨rfl, n1, rfl⟩ := hp
      first | refine z_iincN (b := 1) (ls' := [_, _, _, _, _]) hX dX6_hours_53 rfl rfl rfl ?_ | refine z_iinc (ls' := [_, _, _, _, _]) hX dX6_hours_53 rfl rfl ?_
      refine z_goto (tgt := 40) hX dX6_hours_56 (by decide) ?_
      refine ih (s + 1) _ (by omega) (by omega) ?_ (fun q h1 h2 h3 => ?_)
      · have e3 : b1 3 = b 3 := hq2 3 (by omega) (by omega) (by omega)
        have e4 : (a 7 s).toNatClampNeg = hm := by rw [hm2, nI_clamp (by omega)]
        show (cyG (stillF (a 1) (b1 3)) (b1 9) s hm (a 8 (24 * s + tm % 24)) r, cyT (stillF (a 1) (b1 3)) (b1 9) (b1 10) s hm (a 8 (24 * s + tm % 24)) r) = cyS (stillF (a 1) (b 3)) (a 7) (a 8) r tm s (zfold (cyS (stillF (a 1) (b 3)) (a 7) (a 8) r tm) s (b 9, b 10))
        rw [← hq1]
        unfold cyS
        rw [e4, e3]
      · rw [va_up_ne _ _ h3, va_up_ne _ _ h2, va_up_ne _ _ h1]
        exact hq2 q h1 h2 h3
set_option maxHeartbeats 4000000 in
set_option maxRecDepth 100000 in
theorem lp_hr_72 {X : ZX} {post : Option Value → ZW → Prop} (hX : ZOK X 6 cX6_hours 5) (hR : ZRet X (some .int) post) (a : Nat → Nat → Int32) (b : Nat → Nat → Int64) (c : Nat → Int32) (x r : Int32) (k : Nat) (h12 : ∀ d, d < 4 → ∃ g, g < 9 ∧ a 12 d = nI g) (K : ∀ a1 b1, (b1 16, a1 15) = zfold (wrQ (a 12) (a 13) (b 9)) 4 (b 16, a 15) → okM (a1 15) → (∀ q, q ≠ 15 → a1 q = a q) → (∀ q, q ≠ 16 → b1 q = b q) → ZG X 90 [some (.ref 0), some (.int x), some (.int r), some (.int (nI k)), none] [] (WM a1 b1 c)) : ∀ (n d : Nat) (a1 : Nat → Nat → Int32) (b1 : Nat → Nat → Int64), d ≤ 4 → 4 < d + n → (b1 16, a1 15) = zfold (wrQ (a 12) (a 13) (b 9)) d (b 16, a 15) → okM (a1 15) → (∀ q, q ≠ 15 → a1 q = a q) → (∀ q, q ≠ 16 → b1 q = b q) → ZG X 72 [some (.ref 0), some (.int x), some (.int r), some (.int (nI k)), some (.int (nI d))] [] (WM a1 b1 c) := by
  intro n
  induction n with
  | zero => intro d a1 b1 z1 z2; omega
  | succ n ih =>
    intro d a1 b1 hd1 hd2 hq1 hok hqa hqb
    refine z_iload hX dX6_hours_72 rfl ?_
    refine z_iconst (v := nI 4) hX dX6_hours_74 rfl ?_
    first | with_reducible refine z_icmp_geN (tgt := 90) hX dX6_hours_75 (by decide) (by omega) (by omega) (fun c_75 => ?_) (fun c_75 => ?_) | refine z_icmp_ge (tgt := 90) hX dX6_hours_75 (by decide) (fun c_75 => ?_) (fun c_75 => ?_)
    · -- 75 t
      have zd : d = 4 := by omega
      subst zd
      refine z_forget (ls' := [some (.ref 0), some (.int x), some (.int r), some (.int (nI k)), none]) ⟨rfl, rfl, rfl, rfl, trivial⟩ (K a1 b1 hq1 hok hqa hqb)
    · -- 75 f
      refine z_aload_n hX dX6_hours_78 rfl ?_
      refine z_iload hX dX6_hours_79 rfl ?_
      obtain ⟨db, hdb1, hdb2⟩ := h12 d (by omega)
      obtain ⟨mn, hmn1, hmn2⟩ := hok d (by omega)
      refine z_callV0 hX dX6_hours_81 mv_6_141 (c_X6_write a1 b1 c d db mn (by omega) hdb1 hmn1 hmn2 (by rw [hqa 12 (by omega)]; exact hdb2)) (by decide) rfl rfl rfl rfl (Nat.le_of_ble_eq_true rfl) (fun r w1 hp _ => ?_)
      obtain ⟨rfl, rfl⟩ := hp
      first | refine z_iincN (b := 1) (ls' := [_, _, _, _, _]) hX dX6_hours_84 rfl rfl rfl ?_ | refine z_iinc (ls' := [_, _, _, _, _]) hX dX6_hours_84 rfl rfl ?_
      refine z_goto (tgt := 72) hX dX6_hours_87 (by decide) ?_
      refine ih (d + 1) _ _ (by omega) (by omega) ?_ (okM_wr hok hmn1) (fun q h1 => ?_) (fun q h1 => ?_)
      · have e4 : (a 12 d).toNatClampNeg = db := by rw [hdb2, nI_clamp (by omega)]
        have e5 : (a1 15 d).toNatClampNeg = mn := by rw [hmn2, nI_clamp (by omega)]
        show (wrS (b1 16) (b1 9) (a1 13 d) d db mn, wrM (a1 15) d mn) = wrQ (a 12) (a 13) (b 9) d (zfold (wrQ (a 12) (a 13) (b 9)) d (b 16, a 15))
        rw [← hq1, hqa 13 (by omega), hqb 9 (by omega)]
        unfold wrQ
        rw [e4, e5]
      · rw [va_up_ne _ _ h1]
        exact hqa q h1
      · rw [va_up_ne _ _ h1]
        exact hqb q h1
def hrI (a : Nat → Nat → Int32) (b : Nat → Nat → Int64) (c : Nat → Int32) (r : Int32) (tm k : Nat) (a1 : Nat → Nat → Int32) (b1 : Nat → Nat → Int64) (c1 : Nat → Int32) : Prop := (b1 9, b1 10, b1 16, a1 15) = hrsQ (stillF (a 1) (b 3)) (a 7) (a 8) (a 12) (a 13) r tm k (b 9, b 10, b 16, a 15) ∧ okM (a1 15) ∧ (∀ q, q ≠ 15 → a1 q = a q) ∧ b1 3 = b 3 ∧ c1 0 = nI (tm + k) ∧ c1 1 = c 1 ∧ c1 2 = c 2
set_option maxHeartbeats 4000000 in
set_option maxRecDepth 100000 in
theorem lp_hr_32 {X : ZX} {post : Option Value → ZW → Prop} (hX : ZOK X 6 cX6_hours 5) (hR : ZRet X (some .int) post) (a : Nat → Nat → Int32) (b : Nat → Nat → Int64) (c : Nat → Int32) (r : Int32) (tm nh : Nat) (hnh : nh ≤ 50) (htm : tm + 50 < 2147483648) (h7 : ∀ s, s < 3 → ∃ hm, hm < 9 ∧ a 7 s = nI hm) (h12 : ∀ d, d < 4 → ∃ g, g < 9 ∧ a 12 d = nI g) (hpost : ∀ a1 b1 c1, hrI a b c r tm nh a1 b1 c1 → post (some (.int (c1 0))) (WM a1 b1 c1)) : ∀ (n k : Nat) (a1 : Nat → Nat → Int32) (b1 : Nat → Nat → Int64) (c1 : Nat → Int32), k ≤ nh → nh < k + n → hrI a b c r tm k a1 b1 c1 → ZG X 32 [some (.ref 0), some (.int (nI nh)), some (.int r), some (.int (nI k)), none] [] (WM a1 b1 c1) := by
  intro n
  induction n with
  | zero => intro k a1 b1 c1 z1 z2; omega
  | succ n ih =>
    intro k a1 b1 c1 hk1 hk2 hI
    refine z_iload_n hX dX6_hours_32 rfl ?_
    refine z_iload_n hX dX6_hours_33 rfl ?_
    first | with_reducible refine z_icmp_geN (tgt := 96) hX dX6_hours_34 (by decide) (by omega) (by omega) (fun c_34 => ?_) (fun c_34 => ?_) | refine z_icmp_ge (tgt := 96) hX dX6_hours_34 (by decide) (fun c_34 => ?_) (fun c_34 => ?_)
    · -- 34 t
      have zk : k = nh := by omega
      subst zk
      refine z_aload_n hX dX6_hours_96 rfl ?_
      refine z_get hX dX6_hours_97 f_6_123 rfl rfl ?_
      refine z_iret hX hR dX6_hours_100 ?_
      exact hpost a1 b1 c1 hI
    · -- 34 f
      refine z_iconst (v := nI 0) hX dX6_hours_37 rfl ?_
      refine z_istore (ls' := [_, _, _, _, _]) hX dX6_hours_38 (Nat.le_of_ble_eq_true rfl) rfl ?_
      obtain ⟨q1, q2, q3, q4, q5, q6, q7⟩ := hI
      refine lp_hr_40 hX hR a1 b1 c1 _ r k (tm + k) (by omega) q5 (fun s hs => by rw [q3 7 (by omega)]; exact h7 s hs) (fun b2 e1 e2 => ?_) 4 0 b1 (by omega) (by omega) rfl (fun q _ _ _ => rfl)
      refine z_aload_n hX dX6_hours_59 rfl ?_
      refine z_dup hX dX6_hours_60 rfl ?_
      refine z_get hX dX6_hours_61 f_6_123 rfl rfl ?_
      refine z_top q5 ?_
      refine z_iconst (v := nI 1) hX dX6_hours_64 rfl ?_
      first | with_reducible refine z_iaddN hX dX6_hours_65 ?_ | refine z_iadd hX dX6_hours_65 ?_
      refine z_puti (fs' := [_, _, _, _, _, _, _, _, _, _, _, _, _, _, _, _, _, _, _, _, _, _]) (w' := [_, _, _, _, _, _, _, _, _, _, _, _, _, _, _, _, _, _, _, _]) hX dX6_hours_66 p_6_123 rfl (Nat.le_of_ble_eq_true rfl) rfl rfl ?_
      refine z_iconst (v := nI 0) hX dX6_hours_69 rfl ?_
      refine z_istore (ls' := [_, _, _, _, _]) hX dX6_hours_70 (Nat.le_of_ble_eq_true rfl) rfl ?_
      refine lp_hr_72 hX hR a1 b2 (va_up c1 0 (nI (tm + k + 1))) _ r k (fun d hd => by rw [q3 12 (by omega)]; exact h12 d hd) (fun a3 b3 e3 e4 e5 e6 => ?_) 5 0 a1 b2 (by omega) (by omega) rfl q2 (fun q _ => rfl) (fun q _ => rfl)
      first | refine z_iincN (b := 1) (ls' := [_, _, _, _, _]) hX dX6_hours_90 rfl rfl rfl ?_ | refine z_iinc (ls' := [_, _, _, _, _]) hX dX6_hours_90 rfl rfl ?_
      refine z_goto (tgt := 32) hX dX6_hours_93 (by decide) ?_
      refine ih (k + 1) a3 b3 _ (by omega) (by omega) ⟨?_, e4, fun q hq => by rw [e5 q hq, q3 q hq], by rw [e6 3 (by omega), e2 3 (by omega) (by omega) (by omega), q4], rfl, q6, q7⟩
      rw [hrsQ_s, ← q1]
      have g1 : b3 9 = b2 9 := e6 9 (by omega)
      have g2 : b3 10 = b2 10 := e6 10 (by omega)
      have g3 : b2 16 = b1 16 := e2 16 (by omega) (by omega) (by omega)
      have w1 : a1 1 = a 1 := q3 1 (by omega)
      have w7 : a1 7 = a 7 := q3 7 (by omega)
      have w8 : a1 8 = a 8 := q3 8 (by omega)
      have w12 : a1 12 = a 12 := q3 12 (by omega)
      have w13 : a1 13 = a 13 := q3 13 (by omega)
      rw [w1, w7, w8, q4] at e1
      rw [w12, w13, g3] at e3
      unfold hrQ
      dsimp only
      rw [← e1]
      dsimp only
      rw [← e3, g1, g2]
set_option maxHeartbeats 4000000 in
set_option maxRecDepth 100000 in
theorem c_X6_hours (a : Nat → Nat → Int32) (b : Nat → Nat → Int64) (c : Nat → Int32) (hw : ∀ k, k < 24 → zB (a 1 k) (-100) 100) (hb9 : b 3 9 = 0) (tm : Nat) (htm : tm + 50 < 2147483648) (hc : c 0 = nI tm) (hok : okM (a 15)) (h7 : ∀ s, s < 3 → ∃ hm, hm < 9 ∧ a 7 s = nI hm) (h12 : ∀ d, d < 4 → ∃ g, g < 9 ∧ a 12 d = nI g) (x r : Int32) : ∀ l, ZC l yX6_hours cX6_hours 5 (some .int) 5 [.ref 0, .int x, .int r] (WM a b c) (fun r0 w' => (¬ (zB x 1 50 ∧ zB r 0 1000) ∧ r0 = some (.int (-1)) ∧ w' = WM a b c) ∨ ∃ nh h1 a1 b1 c1, 1 ≤ nh ∧ nh ≤ 50 ∧ x = nI nh ∧ zB r 0 1000 ∧ (∀ q, q < 10 → h1 q = HT (a 1) q) ∧ hrI a (va_up b 3 h1) c r tm nh a1 b1 c1 ∧ r0 = some (.int (nI (tm + nh))) ∧ w' = WM a1 b1 c1) := by
  intro l
  refine zc_intro (oc := 6) (by decide +kernel) rfl (Nat.le_of_ble_eq_true rfl) ?_
  intro X hX hR
  refine z_norm (ls' := [_, _, _, _, _]) rfl rfl rfl ?_
  refine z_iload_n hX dX6_hours_0 rfl ?_
  first | with_reducible refine z_i2lN hX dX6_hours_1 (by omega) ?_ | refine z_i2l hX dX6_hours_1 ?_
  refine z_lconst (v := 1) hX dX6_hours_2 rfl ?_
  refine z_ldc2 hX dX6_hours_3 k_6_135 ?_
  refine z_callS0 hX dX6_hours_6 ms_6_71 (c_X6_in _ _ _ _) (by decide) rfl rfl (Nat.le_of_ble_eq_true rfl) (fun r w1 hp _ => ?_)
  obtain ⟨rfl, hp⟩ := hp
  rcases zinB (a := 1) (b := 50) rfl rfl hp with ⟨hB1, rfl⟩ | ⟨hnB1, rfl⟩
  · -- 6 T
    refine z_if_eq (tgt := 24) hX dX6_hours_9 (by decide) (fun c => absurd c (by decide)) (fun _ => ?_)
    refine z_iload_n hX dX6_hours_12 rfl ?_
    first | with_reducible refine z_i2lN hX dX6_hours_13 (by omega) ?_ | refine z_i2l hX dX6_hours_13 ?_
    refine z_lconst (v := 0) hX dX6_hours_14 rfl ?_
    refine z_ldc2 hX dX6_hours_15 k_6_127 ?_
    refine z_callS0 hX dX6_hours_18 ms_6_71 (c_X6_in _ _ _ _) (by decide) rfl rfl (Nat.le_of_ble_eq_true rfl) (fun r w1 hp _ => ?_)
    obtain ⟨rfl, hp⟩ := hp
    rcases zinB (a := 0) (b := 1000) rfl rfl hp with ⟨hB, rfl⟩ | ⟨hnB, rfl⟩
    · -- 18 T
      refine z_if_ne (tgt := 26) hX dX6_hours_21 (by decide) (fun _ => ?_) (fun c => absurd c (by decide))
      refine z_aload_n hX dX6_hours_26 rfl ?_
      refine z_callV0 hX dX6_hours_27 mv_6_105 (c_X6_findHeights a b c hw) (by decide) rfl rfl rfl rfl (Nat.le_of_ble_eq_true rfl) (fun r w1 hp _ => ?_)
      obtain ⟨rfl, m, h1, rfl, e1⟩ := hp
      have e2 : ∀ q, q < 10 → h1 q = HT (a 1) q := fun q hq => by
        rw [e1 q]
        unfold HT
        by_cases e : q < 9
        · rw [if_pos e, if_pos e]
        · rw [if_neg e, if_neg e, show q = 9 by omega, hb9]
      obtain ⟨nh, hn1, hn2, rfl⟩ : ∃ nh : Nat, 1 ≤ nh ∧ nh ≤ 50 ∧ x = nI nh := by
        have h5 := hB1.1
        have h6 := hB1.2
        refine ⟨x.toInt.toNat, by omega, by omega, ?_⟩
        rw [← Int32.toInt_inj, nI_toInt (by omega)]
        omega
      refine z_iconst (v := nI 0) hX dX6_hours_30 rfl ?_
      refine z_istore_n (ls' := [_, _, _, _, _]) hX dX6_hours_31 (Nat.le_of_ble_eq_true rfl) rfl ?_
      exact lp_hr_32 hX hR a (va_up b 3 h1) c r tm nh hn2 htm h7 h12 (fun a1 b1 c1 hI => Or.inr ⟨nh, h1, a1, b1, c1, hn1, hn2, rfl, hB, e2, hI, by rw [hI.2.2.2.2.1], rfl⟩) 51 0 a (va_up (va_up b 2 m) 3 h1) c (by omega) (by omega) ⟨rfl, hok, fun _ _ => rfl, rfl, hc, rfl, rfl⟩
    · -- 18 F
      refine z_if_ne (tgt := 26) hX dX6_hours_21 (by decide) (fun c => absurd c (by decide)) (fun _ => ?_)
      refine z_iconst (v := -1) hX dX6_hours_24 rfl ?_
      refine z_iret hX hR dX6_hours_25 ?_
      first | exact Or.inl ⟨fun q => hnB1 q.1, rfl, rfl⟩ | exact Or.inl ⟨fun q => hnB q.2, rfl, rfl⟩
  · -- 6 F
    refine z_if_eq (tgt := 24) hX dX6_hours_9 (by decide) (fun _ => ?_) (fun c => absurd c (by decide))
    refine z_iconst (v := -1) hX dX6_hours_24 rfl ?_
    refine z_iret hX hR dX6_hours_25 ?_
    first | exact Or.inl ⟨fun q => hnB1 q.1, rfl, rfl⟩ | exact Or.inl ⟨fun q => hnB q.2, rfl, rfl⟩
