/-! ===== the law: its start ===== -/
theorem zw_mem {w : Cond} (h : w ∈ zwd) : w ∈ lw_tbl := (List.mem_filter.mp h).1
theorem R2_0 : R2 (ac0) (fun _ _ => 0) (am0 4) (am0 5) (am0 6) := by
  intro s hs
  rcases z4 hs with rfl | rfl | rfl | rfl
  · exact ⟨⟨0, by omega, rfl, rfl⟩, Or.inl ⟨rfl, rfl⟩, fun q _ => rfl⟩
  · exact ⟨⟨0, by omega, rfl, rfl⟩, Or.inl ⟨rfl, rfl⟩, fun q _ => rfl⟩
  · exact ⟨⟨0, by omega, rfl, rfl⟩, Or.inl ⟨rfl, rfl⟩, fun q _ => rfl⟩
  · exact ⟨⟨0, by omega, rfl, rfl⟩, Or.inl ⟨rfl, rfl⟩, fun q _ => rfl⟩
theorem zB_0 {lo hi : Int} (h1 : lo ≤ 0) (h2 : 0 ≤ hi) : zB 0 lo hi := ⟨h1, h2⟩
theorem HT_0 (q : Nat) : HT (am0 1) q = 0 := by
  have hw : ∀ k, k < 24 → zB (am0 1 k) (-100) 100 := fun k _ => zB_0 (by decide) (by decide)
  have e : ∀ t, t < 9 → gI (WI (am0 1)) t = 0 := fun t _ => by
    show (0 : Int) - 0 + 0 - 0 = 0
    decide
  rw [← Int64.toInt_inj, HT_int hw]
  show hI (WI (am0 1)) q = 0
  unfold hI
  by_cases h : q < 9
  · rw [if_pos h]
    unfold zS9
    dsimp only
    rw [e 0 (by omega), e 1 (by omega), e 2 (by omega), e 3 (by omega), e 4 (by omega), e 5 (by omega), e 6 (by omega), e 7 (by omega), e 8 (by omega)]
    simp only [Int.mul_zero, Int.add_zero]
  · rw [if_neg h]
theorem sum0 : ∀ n, sumI (fun _ => 0) n = 0
  | 0 => rfl
  | n + 1 => by rw [sumI_s, sum0 n]; rfl
theorem Rel_0 : Rel 0 ac0 (fun _ _ => 0) (fun _ _ => 0) (fun _ _ => 0) am0 (fun _ _ => 0) (fun _ => 0) := by
  refine ⟨⟨fun q _ => ⟨rfl, zB_0 (by decide) (by decide)⟩, fun q _ => (HT_0 q).symm, fun q _ => ?_, rfl⟩, R2_0, ⟨0, Nat.zero_le _, rfl, rfl, fun s hs => ?_⟩, fun d hd => ?_, ⟨rfl, zB_0 (by decide) (by decide), rfl, zB_0 (by decide) (by decide), fun q hq => ?_⟩⟩
  · unfold stillF
    rw [HT_0, HT_0]
    show (0 : Int64) = 100352 * (0 : Int32).toInt64 + 0 - 0
    decide +kernel
  · rcases (show s = 0 ∨ s = 1 ∨ s = 2 by omega) with e | e | e <;> subst e
    all_goals exact ⟨⟨0, by omega, rfl, rfl⟩, fun q _ => ⟨rfl, zB_0 (by decide) (by decide)⟩, ⟨fun q _ => rfl, fun k _ => rfl, rfl⟩, ⟨fun q _ => Int.le_refl 0, by
      show sumI (fun _ => 0) 10 ≤ _
      rw [sum0]
      decide⟩⟩
  · rcases z4 hd with rfl | rfl | rfl | rfl
    all_goals exact ⟨0, 0, 0, by omega, by omega, by omega, rfl, rfl, rfl, rfl, rfl, rfl, Or.inl rfl, rfl, Or.inl rfl, fun j hj => absurd hj (Nat.not_lt_zero j)⟩
  · refine ⟨rfl, ?_⟩
    rcases (show q = 0 ∨ q = 1 ∨ q = 2 by omega) with e | e | e <;> subst e
    all_goals exact ⟨by decide +kernel, by decide +kernel⟩
theorem sm_FROM : (Cond.arrayOf (.static "WindBoxes" "FROM" "[I") .int ∈ flatC (Jvm.Cond.and given_1 narrow_1) ∧ Cond.eq (.length (.static "WindBoxes" "FROM" "[I")) (.int (Int32.ofNat 24)) ∈ flatC (Jvm.Cond.and given_1 narrow_1)) ∧ ∀ j, j < 24 → Cond.eq (.elem (.static "WindBoxes" "FROM" "[I") (.int (Int32.ofNat j))) (.int (nI (zFROM.getD j 0))) ∈ flatC (Jvm.Cond.and given_1 narrow_1) := by decide +kernel
theorem st_FROM {args : Array Value} {s : State} (hs : ∀ c ∈ flatC (Jvm.Cond.and given_1 narrow_1), c.before args s = true) (hts : ∀ w ∈ lw_tbl, w.before args s = true) : ∃ t : Nat, va_Z "WindBoxes" "FROM" "[I" (.ref t) (fun q => s.heap.size ≤ q) s s.heap ∧ va_T .int t 24 (fun j => .int (nI (zFROM.getD j 0))) (fun q => s.heap.size ≤ q) s s.heap := by
  obtain ⟨t, h1, h2⟩ := va_Tof (A := fun q => s.heap.size ≤ q) (by decide) (hs _ sm_FROM.1.1) (va_eqt (hs _ sm_FROM.1.2)) (f := fun j => .int (nI (zFROM.getD j 0))) (fun j hj => va_eqt (hs _ (sm_FROM.2 j hj))) (fun a ha => Nat.not_le.mpr ha)
  exact ⟨t, va_Zref (hts _ (List.mem_of_getElem? (i := 222) (by decide +kernel))) (hts _ (List.mem_of_getElem? (i := 12) (by decide +kernel))) h1 (fun a ha => Nat.not_le.mpr ha), h2⟩
theorem sm_TO : (Cond.arrayOf (.static "WindBoxes" "TO" "[I") .int ∈ flatC (Jvm.Cond.and given_1 narrow_1) ∧ Cond.eq (.length (.static "WindBoxes" "TO" "[I")) (.int (Int32.ofNat 24)) ∈ flatC (Jvm.Cond.and given_1 narrow_1)) ∧ ∀ j, j < 24 → Cond.eq (.elem (.static "WindBoxes" "TO" "[I") (.int (Int32.ofNat j))) (.int (nI (zTO.getD j 0))) ∈ flatC (Jvm.Cond.and given_1 narrow_1) := by decide +kernel
theorem st_TO {args : Array Value} {s : State} (hs : ∀ c ∈ flatC (Jvm.Cond.and given_1 narrow_1), c.before args s = true) (hts : ∀ w ∈ lw_tbl, w.before args s = true) : ∃ t : Nat, va_Z "WindBoxes" "TO" "[I" (.ref t) (fun q => s.heap.size ≤ q) s s.heap ∧ va_T .int t 24 (fun j => .int (nI (zTO.getD j 0))) (fun q => s.heap.size ≤ q) s s.heap := by
  obtain ⟨t, h1, h2⟩ := va_Tof (A := fun q => s.heap.size ≤ q) (by decide) (hs _ sm_TO.1.1) (va_eqt (hs _ sm_TO.1.2)) (f := fun j => .int (nI (zTO.getD j 0))) (fun j hj => va_eqt (hs _ (sm_TO.2 j hj))) (fun a ha => Nat.not_le.mpr ha)
  exact ⟨t, va_Zref (hts _ (List.mem_of_getElem? (i := 224) (by decide +kernel))) (hts _ (List.mem_of_getElem? (i := 12) (by decide +kernel))) h1 (fun a ha => Nat.not_le.mpr ha), h2⟩
theorem sm_FALL : (Cond.arrayOf (.static "WindBoxes" "FALL" "[I") .int ∈ flatC (Jvm.Cond.and given_1 narrow_1) ∧ Cond.eq (.length (.static "WindBoxes" "FALL" "[I")) (.int (Int32.ofNat 81)) ∈ flatC (Jvm.Cond.and given_1 narrow_1)) ∧ ∀ j, j < 81 → Cond.eq (.elem (.static "WindBoxes" "FALL" "[I") (.int (Int32.ofNat j))) (.int (nI (zFALL.getD j 0))) ∈ flatC (Jvm.Cond.and given_1 narrow_1) := by decide +kernel
theorem st_FALL {args : Array Value} {s : State} (hs : ∀ c ∈ flatC (Jvm.Cond.and given_1 narrow_1), c.before args s = true) (hts : ∀ w ∈ lw_tbl, w.before args s = true) : ∃ t : Nat, va_Z "WindBoxes" "FALL" "[I" (.ref t) (fun q => s.heap.size ≤ q) s s.heap ∧ va_T .int t 81 (fun j => .int (nI (zFALL.getD j 0))) (fun q => s.heap.size ≤ q) s s.heap := by
  obtain ⟨t, h1, h2⟩ := va_Tof (A := fun q => s.heap.size ≤ q) (by decide) (hs _ sm_FALL.1.1) (va_eqt (hs _ sm_FALL.1.2)) (f := fun j => .int (nI (zFALL.getD j 0))) (fun j hj => va_eqt (hs _ (sm_FALL.2 j hj))) (fun a ha => Nat.not_le.mpr ha)
  exact ⟨t, va_Zref (hts _ (List.mem_of_getElem? (i := 215) (by decide +kernel))) (hts _ (List.mem_of_getElem? (i := 12) (by decide +kernel))) h1 (fun a ha => Nat.not_le.mpr ha), h2⟩
theorem st_nw {args : Array Value} {s : State} (hts : ∀ w ∈ lw_tbl, w.before args s = true) : znw s := ⟨va_Nw.of rfl (hts _ (List.mem_of_getElem? (i := 214) (by decide +kernel))), va_Nw.of rfl (hts _ (List.mem_of_getElem? (i := 221) (by decide +kernel))), va_Nw.of rfl (hts _ (List.mem_of_getElem? (i := 223) (by decide +kernel))), va_Nw.of rfl (hts _ (List.mem_of_getElem? (i := 321) (by decide +kernel))), va_Nw.of rfl (hts _ (List.mem_of_getElem? (i := 322) (by decide +kernel)))⟩
theorem st_ni {args : Array Value} {s : State} (hts : ∀ w ∈ lw_tbl, w.before args s = true) : zni s := ⟨⟨va_Nw.of rfl (hts _ (List.mem_of_getElem? (i := 32) (by decide +kernel))), va_Nw.of rfl (hts _ (List.mem_of_getElem? (i := 58) (by decide +kernel))), va_Nw.of rfl (hts _ (List.mem_of_getElem? (i := 84) (by decide +kernel))), va_Nw.of rfl (hts _ (List.mem_of_getElem? (i := 105) (by decide +kernel))), va_Nw.of rfl (hts _ (List.mem_of_getElem? (i := 137) (by decide +kernel)))⟩, ⟨va_AO.of (hts _ (List.mem_of_getElem? (i := 51) (by decide +kernel))), va_AO.of (hts _ (List.mem_of_getElem? (i := 53) (by decide +kernel))), va_AO.of (hts _ (List.mem_of_getElem? (i := 55) (by decide +kernel)))⟩, hts (.arrayOver (.array .long)) (List.mem_of_getElem? (i := 142) (by decide +kernel))⟩
theorem st_K {args : Array Value} {s : State} (hts : ∀ w ∈ lw_tbl, w.before args s = true) : ∃ (D : va_G) (cy : Nat → Nat), va_K D vwCl (ztys cy) s := by
  obtain ⟨c0, iS0, hKn0⟩ := u_known (C := RX0) (T := TX0) (N := 3) (n := 3) hts (fun w h => zw_mem (inz0 w h)) (hts _ (List.mem_of_getElem? (i := 31) (by decide +kernel)))
  obtain ⟨c1, iS1, hKn1⟩ := u_known (C := RX1) (T := TX1) (N := 5) (n := 5) hts (fun w h => zw_mem (inz1 w h)) (hts _ (List.mem_of_getElem? (i := 57) (by decide +kernel)))
  obtain ⟨c2, iS2, hKn2⟩ := u_known (C := RX2) (T := TX2) (N := 8) (n := 8) hts (fun w h => zw_mem (inz2 w h)) (hts _ (List.mem_of_getElem? (i := 136) (by decide +kernel)))
  obtain ⟨c3, iS3, hKn3⟩ := u_known (C := RX3) (T := TX3) (N := 4) (n := 4) hts (fun w h => zw_mem (inz3 w h)) (hts _ (List.mem_of_getElem? (i := 83) (by decide +kernel)))
  obtain ⟨c4, iS4, hKn4⟩ := u_known (C := RX4) (T := TX4) (N := 7) (n := 7) hts (fun w h => zw_mem (inz4 w h)) (hts _ (List.mem_of_getElem? (i := 104) (by decide +kernel)))
  obtain ⟨c5, iS5, hKn5⟩ := u_known (C := RX5) (T := TX5) (N := 6) (n := 6) hts (fun w h => zw_mem (inz5 w h)) (hts _ (List.mem_of_getElem? (i := 23) (by decide +kernel)))
  obtain ⟨c6, iS6, hKn6⟩ := u_known (C := RX6) (T := TX6) (N := 22) (n := 22) hts (fun w h => zw_mem (inz6 w h)) (hts _ (List.mem_of_getElem? (i := 449) (by decide +kernel)))
  obtain ⟨y0, k0, q0, u0, v0, w0⟩ := Cond.arrayClass_spec (hts (.arrayClass .int) (List.mem_of_getElem? (i := 48) (by decide +kernel)))
  obtain ⟨y1, k1, q1, u1, v1, w1⟩ := Cond.arrayClass_spec (hts (.arrayClass .long) (List.mem_of_getElem? (i := 49) (by decide +kernel)))
  obtain ⟨y2, k2, q2, u2, v2, w2⟩ := Cond.arrayClass_spec (hts (.arrayClass .boolean) (List.mem_of_getElem? (i := 175) (by decide +kernel)))
  obtain ⟨q3, y3, k3, n3, -, v3, w3, u3⟩ := Cond.arrayOver_spec (va_AO.use (A := args) (st_ni hts).2.1.1)
  obtain ⟨q4, y4, k4, n4, -, v4, w4, u4⟩ := Cond.arrayOver_spec (va_AO.use (A := args) (st_ni hts).2.1.2.1)
  obtain ⟨q5, y5, k5, n5, -, v5, w5, u5⟩ := Cond.arrayOver_spec (va_AO.use (A := args) (st_ni hts).2.1.2.2)
  obtain ⟨q6, y6, k6, n6, -, v6, w6, u6⟩ := Jvm.Stand.arrayOver_specB (st_ni hts).2.2
  refine ⟨(fun k => if k = 0 then c0 else if k = 1 then c1 else if k = 2 then c2 else if k = 3 then c3 else if k = 4 then c4 else if k = 5 then c5 else c6, fun k => if k = 0 then iS0 else if k = 1 then iS1 else if k = 2 then iS2 else if k = 3 then iS3 else if k = 4 then iS4 else if k = 5 then iS5 else iS6), fun k => if k = 0 then y0 else if k = 1 then y1 else if k = 2 then y2 else if k = 3 then y3 else if k = 4 then y4 else if k = 5 then y5 else y6, ?_, ?_⟩
  · intro k q hq
    match k, hq with
    | 0, hq => cases hq; exact hKn0
    | 1, hq => cases hq; exact hKn1
    | 2, hq => cases hq; exact hKn2
    | 3, hq => cases hq; exact hKn3
    | 4, hq => cases hq; exact hKn4
    | 5, hq => cases hq; exact hKn5
    | 6, hq => cases hq; exact hKn6
    | k + 7, hq => simp [vwCl] at hq
  · intro k q hq
    match k, hq with
    | 0, hq => cases hq; exact ⟨fun N z => ⟨(fun k h => by cases h), k0, v0, q0, w0⟩, u0⟩
    | 1, hq => cases hq; exact ⟨fun N z => ⟨(fun k h => by cases h), k1, v1, q1, w1⟩, u1⟩
    | 2, hq => cases hq; exact ⟨fun N z => ⟨(fun k h => by cases h), k2, v2, q2, w2⟩, u2⟩
    | 3, hq => cases hq; exact ⟨fun N z => ⟨(fun k h => by cases h), k3, v3, q3, w3⟩, k3, q3, v3, w3, n3, u3⟩
    | 4, hq => cases hq; exact ⟨fun N z => ⟨(fun k h => by cases h), k4, v4, q4, w4⟩, k4, q4, v4, w4, n4, u4⟩
    | 5, hq => cases hq; exact ⟨fun N z => ⟨(fun k h => by cases h), k5, v5, q5, w5⟩, k5, q5, v5, w5, n5, u5⟩
    | 6, hq => cases hq; exact ⟨fun N z => ⟨(fun k h => by cases h), k6, v6, q6, w6⟩, u6⟩
    | k + 7, hq => simp [ztys] at hq
theorem ZKp.law {X0 X : ZX} {n cells slots L : Nat} {xs : Nat → Int32} (hk : ZKp X0 X n cells slots) (hc : cells ≤ 600000) (hs : slots ≤ 7302250) (h : ZLaw X0) (hS : ZSc X0 L xs) : ZLaw X ∧ ZSc X L xs := by
  obtain ⟨p0, l0, e0, R0, s0, m0, args0, below0, meth0, c0, D0, cy0, ad0, A0, n0, cells0, slots0, Q0⟩ := X0
  obtain ⟨ad1, e1, e2, e3⟩ := hk
  subst e1
  obtain ⟨h1, h2, h3, h4, h5, -, -, h6⟩ := h
  refine ⟨⟨h1, h2, h3, h4, h5, hc, hs, h6⟩, ?_⟩
  obtain ⟨g1, g2, g3⟩ := hS
  have e9 := e3 1003 (Or.inr (by omega))
  show va_X (ad1 1003) L xs s0 s0.heap ∧ ad1 1003 < s0.heap.size ∧ ¬ A0 (ad1 1003)
  rw [e9]
  exact ⟨g1, g2, g3⟩
set_option maxHeartbeats 4000000 in
set_option maxRecDepth 100000 in
theorem law_walk {X : ZX} (hX : ZOK X 9 cL_law 6) (hk : ZKp X X 0 0 0) (hrm : ZRm X 600000 7302250) (hni : ZNI X) (hQ : ZLaw X) {L : Nat} {xs : Nat → Int32} (hS : ZSc X L xs) (hL : L ≤ 2560) : ZG X 0 [some (.ref 1003), none, none, none] [] [] := by
  refine z_newo (n := 0) (cells := 0) (slots := 0) hX hk hrm ⟨(Nat.le_of_ble_eq_true rfl), (Nat.le_of_ble_eq_true rfl)⟩ dL_law_0 nw_9_7 rfl rfl (by decide) rfl (fun X1 hX hk => ?_)
  refine z_norm (ls' := [some (.ref 1003), none, none, none]) (st' := [.ref 0]) (w' := [_]) rfl rfl rfl ?_
  refine z_dup hX dL_law_3 rfl ?_
  refine z_callI (n := 1) (cells := 1) (slots := 6) hX hk hrm hni dL_law_4 il_9_9 iq_5 iy_5 (by decide) c_X5_init (by decide) ⟨(Nat.le_of_ble_eq_true rfl), (Nat.le_of_ble_eq_true rfl)⟩ rfl (Nat.le_of_ble_eq_true rfl) rfl rfl rfl rfl (Nat.le_of_ble_eq_true rfl) (fun X2 hX hk => ?_)
  refine z_norm (ls' := [some (.ref 1003), none, none, none]) (st' := [.ref 0]) (w' := [_, _, _, _, _, _, _, _, _, _, _, _, _, _, _, _, _, _, _, _, _, _, _, _, _, _, _, _, _, _, _, _, _, _, _, _, _, _, _, _, _, _, _, _, _, _, _, _, _, _, _, _, _, _, _, _, _, _, _]) rfl rfl rfl ?_
  refine z_astore_n (ls' := [some (.ref 1003), some (.ref 0), none, none]) hX dL_law_7 (Nat.le_of_ble_eq_true rfl) rfl ?_
  refine z_newo (n := 59) (cells := 59) (slots := 2398) hX hk hrm ⟨(Nat.le_of_ble_eq_true rfl), (Nat.le_of_ble_eq_true rfl)⟩ dL_law_8 nw_9_10 rfl rfl (by decide) rfl (fun X3 hX hk => ?_)
  refine z_norm (ls' := [some (.ref 1003), some (.ref 0), none, none]) (st' := [.ref 59]) (w' := [_, _, _, _, _, _, _, _, _, _, _, _, _, _, _, _, _, _, _, _, _, _, _, _, _, _, _, _, _, _, _, _, _, _, _, _, _, _, _, _, _, _, _, _, _, _, _, _, _, _, _, _, _, _, _, _, _, _, _, _]) rfl rfl rfl ?_
  refine z_dup hX dL_law_11 rfl ?_
  refine z_callI (n := 60) (cells := 60) (slots := 2420) hX hk hrm hni dL_law_12 il_9_12 iq_6 iy_6 (by decide) c_X6_init (by decide) ⟨(Nat.le_of_ble_eq_true rfl), (Nat.le_of_ble_eq_true rfl)⟩ rfl (Nat.le_of_ble_eq_true rfl) rfl rfl rfl rfl (Nat.le_of_ble_eq_true rfl) (fun X4 hX hk => ?_)
  refine z_norm (ls' := [some (.ref 1003), some (.ref 0), none, none]) (st' := [.ref 59]) (w' := LW ac0 (fun _ _ => 0) (fun _ _ => 0) (fun _ _ => 0) am0 (fun _ _ => 0) (fun _ => 0)) rfl rfl rfl ?_
  refine z_astore_n (ls' := [some (.ref 1003), some (.ref 0), some (.ref 59), none]) hX dL_law_15 (Nat.le_of_ble_eq_true rfl) rfl ?_
  refine z_iconst (v := nI 0) hX dL_law_16 rfl ?_
  refine z_istore_n (ls' := [some (.ref 1003), some (.ref 0), some (.ref 59), some (.int (nI 0))]) hX dL_law_17 (Nat.le_of_ble_eq_true rfl) rfl ?_
  obtain ⟨hQ, hS⟩ := hk.law (by decide) (by decide) hQ hS
  exact law_loop hX hQ hS hL (L + 1) 0 0 _ _ _ _ _ _ _ (by omega) (by omega) rfl Rel_0
/-- from the entry, for every script, the law comes to its end with true -/
theorem whole_start {p : Program} {e : Env} {s : State} {m : MethodId} {below : List Frame} {meth : Method} {c : Code} (l : Launch) {b L : Nat} {xs : Nat → Int32} (hL : L ≤ 2560) (C0 : lw_At p s m meth c b L xs) : W p l e room_1 s m #[Value.ref b] below meth c s.heap [] 0 0 (lw_Z below #[Value.ref b] s) (entryFrame m ([Value.ref b] : List Value).toArray 4) := by
  obtain ⟨hx, hb, hr, hml, hown, hts, hXs, hbl, hlocks, hgv⟩ := C0
  have hs := flat_of_before _ hgv
  obtain ⟨D, cy, hK⟩ := st_K hts
  obtain ⟨t0, z0, y0⟩ := st_FROM hs hts
  obtain ⟨t1, z1, y1⟩ := st_TO hs hts
  obtain ⟨t2, z2, y2⟩ := st_FALL hs hts
  have hw := law_walk (X := (p, l, e, room_1, s, m, #[Value.ref b], below, meth, c, D, cy, fun k => if k = 1000 then t0 else if k = 1001 then t1 else if k = 1002 then t2 else b, fun q => s.heap.size ≤ q, 0, 0, 0, lw_Z below #[Value.ref b] s)) (L := L) (xs := xs)
    ⟨hx, hb, hown, fun w h => hts w (zw_mem h), hK, fun i j hi => absurd hi (Nat.not_lt_zero i), fun i hi => absurd hi (Nat.not_lt_zero i), ⟨⟨z0, y0⟩, ⟨z1, y1⟩, ⟨z2, y2⟩, st_nw hts⟩, ⟨by decide, by decide⟩, ⟨Nat.zero_le _, Nat.zero_le _⟩, fun _ h => h⟩ ⟨_, rfl, Nat.le_refl _, fun _ _ => rfl⟩ ⟨by decide, by decide⟩ (st_ni hts) ⟨rfl, ⟨b, rfl⟩, hr, hlocks, rfl, Nat.zero_le _, Nat.zero_le _, rfl⟩ ⟨hXs, hbl, Nat.not_le.mpr hbl⟩ hL
  rw [lg_entry_eq]
  exact hw s.heap [] _ rfl (fun k q h => by simp [zcw] at h) va_S.rf (by
    rw [hml]
    exact zent_ok (fun k => if k = 1000 then t0 else if k = 1001 then t1 else if k = 1002 then t2 else b) [.ref 1003] 4 (Nat.le_of_ble_eq_true rfl))
set_option maxHeartbeats 4000000 in
theorem lw_walk (l : Launch) (b : Addr) (xs : List Int32) : MetFree l x (headSpec (Jvm.Cond.code x code maxLocals ret :: tables_1) room_1) (lw_P b xs) (fun _ _ _ _ _ => True) lw_Q := by
  refine MetFree.of_bodyS (code := code) (maxLocals := maxLocals) (ret := ret) (by decide) ?_ ?_
  · intro args s m h hn
    obtain ⟨meth, c, h1, h2, h3, h4, h5, h6, -, -⟩ := Cond.code_spec hn (atoms_spec (ws := Jvm.Cond.code x code maxLocals ret :: tables_1) h _ List.mem_cons_self)
    exact ⟨meth, c, h1, h2, h3, h4, h5, h6⟩
  · intro p e s m args below meth c s₁ B hml0 hP _
    obtain ⟨rfl, hx, hbd, hgv⟩ := hP
    obtain ⟨scr, harrAt, hlist, hof, hsmall⟩ := hx
    obtain ⟨hcb, hkn, -, -⟩ := State.arrayAt?_spec harrAt
    have hown : s.vm.findClass R_law = some m.cls := findClass_of_methodNamed B.named
    have hts0 : ∀ c ∈ (Jvm.Cond.code x code maxLocals ret :: tables_1), c.before #[Value.ref b] s = true := atoms_spec (ws := Jvm.Cond.code x code maxLocals ret :: tables_1) B.pre
    have hts : ∀ w ∈ lw_tbl, w.before #[Value.ref b] s = true := k2_hts_sels lw_privs (fun w hw => hts0 w (List.mem_cons_of_mem _ hw)) lw_privs_ok
    have hml : c.maxLocals = 4 := B.maxLocals_eq (hts0 _ List.mem_cons_self)
    have X₀ : Stand p l e room_1 s m #[Value.ref b] below meth c s₁ [] 0 0 := Stand.of_body B
    have hh0 : s₁.heap = s.heap := by rw [B.state]; rfl
    have hsz : scr.slots.size = xs.length := by rw [← Array.length_toList, hlist, List.length_map]
    have hval : ∀ j : Nat, j < xs.length → scr.slots[j]? = some (.int (xs.getD j 0)) := fun j hj => by
      rw [← Array.getElem?_toList, hlist]
      simp [hj]
    have hbl : b < s.heap.size := (Array.getElem?_eq_some_iff.mp hcb).1
    have hX : va_X b xs.length (fun j => xs.getD j 0) s s.heap := ⟨scr, hcb, hof, hkn, hsz, hval⟩
    have K : W p l e room_1 s m #[Value.ref b] below meth c s₁.heap [] 0 0 (lw_Z below #[Value.ref b] s) (entryFrame m ([Value.ref b] : List Value).toArray 4) := by
      rw [hh0]
      exact whole_start l hbd ⟨B.exec, B.bytes, B.returns, hml, hown, hts, hX, hbl, B.notSynchronized, hgv⟩
    obtain ⟨t, a1, o, b1, b2, b3⟩ := K s₁ rfl X₀
    exact ⟨t, o, a1, b1, b2, b3⟩
theorem lw_pre_spec {args : Array Value} {s : State} (h : (Jvm.Cond.and given_1 narrow_1).before args s = true) (hr : rest_1_c.before args s = true) : ∃ (b : Addr) (xs : List Int32), lw_P b xs args s := by
  have hs := flat_of_before _ h
  have hq := flat_of_before _ hr
  have hc : (Cond.count 1).before args s = true := hs _ (by decide +kernel)
  have harr : (Cond.arrayOf (.arg 0) .int).before args s = true := hs _ (by decide +kernel)
  have hle : (Cond.le (.length (.arg 0)) (.int 2560)).before args s = true := hs _ (by decide +kernel)
  have hlen : (Cond.isInt (.length (.arg 0))).before args s = true := hq _ (by decide +kernel)
  have hall : (Cond.all (.arg 0) (.isInt (.elem (.arg 0) (.index 0)))).before args s = true := hq _ (by decide +kernel)
  obtain ⟨b, xs, hb, hx⟩ := State.ints_of_pre rfl harr hlen hall
  have hsm : xs.length < 2 ^ 31 := hx.choose_spec.2.2.2
  have hev : (Term.length (.arg 0)).eval args s none [] s = some (.int xs.length.toInt32) := hx.length_eval hb
  have hv := Cond.le_ints hev (show (Term.int 2560).eval args s none [] s = some (.int 2560) from rfl)
  have hd : xs.length.toInt32 ≤ 2560 := by
    simpa [Cond.before, Cond.holds, hv] using hle
  have hN : xs.length ≤ 2560 := (Int32.ofNat_le_ofNat hsm (by decide)).mp (show Int32.ofNat xs.length ≤ Int32.ofNat 2560 from hd)
  exact ⟨b, xs, Cond.one_arg hc (show args[0]? = some (.ref b) from hb), hx, hN, h⟩
theorem lw_comes (l : Launch) : Comes l x (Jvm.Cond.code x code maxLocals ret :: tables_1) room_1 (fun tb e args s => Calls_1 tb e args s ∧ rest_1 tb e args s ∧ Pre_1 tb e args s)
    (fun _ _ args s o t => lw_Q args s o t) := by
  intro p e ha hc hk s m args below hf hfit hheap happ hpre
  obtain ⟨b, xs, hP⟩ := lw_pre_spec hpre.2.2 hpre.2.1
  obtain ⟨k, o, h1, h2, h3, hQ⟩ := lw_walk l b xs p e ha hc hk s m args below hf ((Spec.applies_iff_loose hf).mp happ).1 hP trivial
  exact ⟨k, o, h1, h2, h3, hQ⟩
theorem lw_frame {s t : State} {o : Outcome} {args : Array Value} (h : Framed s o t [] 600000 7302250) :
    Framed s o t (fieldLocs frame_1_writes args s ++ arrayLocs frame_1_arrays args s ++ staticLocs frame_1_statics s) 600000 7302250 := h
theorem lw_limb (L : Cond) (hL : ∀ (args : Array Value) (s t : State), L.after args s (.returned (some (.int 1))) t = true) :
    ArmFor flags0 classFile x code maxLocals ret World_1 tables_1 room_1 Calls_1 rest_1 Pre_1
      (fun tb e a s o t => postC L tb e a s o t ∧ Framed s o t (fieldLocs frame_1_writes a s ++ arrayLocs frame_1_arrays a s ++ staticLocs frame_1_statics s) 600000 7302250) := by
  intro l _ _ _ p e ha hc hk s m args below hf hfit hheap happ hpre
  obtain ⟨k, o, h1, h2, h3, rfl, hF⟩ := lw_comes l p e ha hc hk s m args below hf hfit hheap happ hpre
  exact ⟨k, _, h1, h2, h3, hL args s _, lw_frame hF⟩
theorem i_vc : Claimed_1_1 ∧ Claimed_1_2 := ⟨lw_limb limb_1_1 (fun args s t => by simp [limb_1_1, Cond.after, Cond.holds, Cond.value]), lw_limb limb_1_2 (fun args s t => Cond.after_iff.mpr (by
  first | (rw [show limb_1_2 = Cond.eq .result (.int 1) from rfl, Cond.eq_ints (x := 1) (y := 1) rfl rfl]; simp; done) | (simp [limb_1_2, Cond.value, Term.eval]; done)))⟩
