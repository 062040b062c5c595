/-! ===== the law: its loop and its end ===== -/
def R_law : String := "WindBoxesLaw"
def lw_P (b : Addr) (xs : List Int32) (args : Array Value) (s : State) : Prop := args = #[.ref b] ∧ s.IntsAt b xs ∧ xs.length ≤ 2560 ∧ (Jvm.Cond.and given_1 narrow_1).before args s = true
def lw_Q (_ : Array Value) (s : State) (o : Outcome) (t : State) : Prop := o = .returned (some (.int 1)) ∧ Framed s o t [] 600000 7302250
def lw_Z (below : List Frame) (a : Array Value) (s : State) : State → Prop := fun t => ∃ o, t.status = .running ∧ Ended t below o ∧ lw_Q a s o t
/-- the law's own end, with 1 on the stack, nothing written that was there before, its room as the claim has it -/
theorem lw_ret {p : Program} {l : Launch} {e : Env} {s : State} {m : MethodId} {below : List Frame} {meth : Method} {c : Code} {b : Nat} (hx : p.tables.exec = Jvm.exec) (hb : c.code = code) (hr : meth.sig.returnType = ret) (hlocks : meth.locks = false) {pc : Nat} {H : Heap} {ls : Array Slot} (hdg : decode code pc = .ok (.ireturn, 1)) : W p l e room_1 s m #[Value.ref b] below meth c H [] 600000 7302250 (lw_Z below #[Value.ref b] s) (F0 m pc ls [.int 1]) := by
  intro T hT X
  obtain ⟨fs, hret, hrun, hended, hW, hframe⟩ := X.leave (v := some (.int 1)) (hlocks := hlocks) (fun h => by rw [hr] at h; cases h)
  have hmeth' : T.vm.method? m = some meth := X.method'
  refine ⟨T.setFrames fs, ?_, .returned (some (.int 1)), hrun, hended, rfl, ⟨_, rfl⟩, hW, hframe⟩
  jvm_step X.here [X.here.top, hx, hb, hdg, hmeth', hr, ret, narrow_b1]
  (try refine ⟨rfl, ?_⟩); (try refine ⟨rfl, ?_⟩)
  first | (intro acts; rw [hret _ acts rfl rfl rfl]) | rw [hret _ _ rfl rfl rfl]
  exact Steps.refl _
def lw_At (p : Program) (s : State) (m : MethodId) (meth : Method) (c : Code) (b L : Nat) (xs : Nat → Int32) : Prop :=
  p.tables.exec = Jvm.exec ∧ c.code = code ∧ meth.sig.returnType = ret ∧ c.maxLocals = 4 ∧ s.vm.findClass R_law = some m.cls ∧ (∀ w ∈ lw_tbl, w.before #[Value.ref b] s = true) ∧ va_X b L xs s s.heap ∧ b < s.heap.size ∧ meth.locks = false ∧ (Jvm.Cond.and given_1 narrow_1).before #[Value.ref b] s = true
def ZLaw (X : ZX) : Prop := match X with
  | (_, _, _, R, s, _, args, below, meth, _, _, _, _, A, _, cells, slots, Q) => R = room_1 ∧ (∃ b, args = #[Value.ref b]) ∧ meth.sig.returnType = ret ∧ meth.locks = false ∧ A = (fun q => s.heap.size ≤ q) ∧ cells ≤ 600000 ∧ slots ≤ 7302250 ∧ Q = lw_Z below args s
theorem z_lawret {X : ZX} {d pc : Nat} {ls : List (Option Value)} {w : ZW} (hX : ZOK X 9 cL_law d) (hQ : ZLaw X) (hd : decode cL_law pc = .ok (.ireturn, 1)) : ZG X pc ls [.int 1] w := by
  obtain ⟨p, l, e, R, s, m, args, below, meth, c, D, cy, ad, A, n, cells, slots, Q⟩ := X
  intro H locs lsA h1 h2 h3 h4
  obtain ⟨rfl, ⟨b, rfl⟩, hr, hlk, rfl, hc, hs, rfl⟩ := hQ
  exact va_forget h3.2.2 (W.widen hc hs (lw_ret hX.ex hX.by hr hlk hd))
set_option maxHeartbeats 4000000 in
set_option maxRecDepth 100000 in
theorem law_loop {X : ZX} (hX : ZOK X 9 cL_law 6) (hQ : ZLaw X) {L : Nat} {xs : Nat → Int32} (hS : ZSc X L xs) (hL : L ≤ 2560) : ∀ (n k N : Nat) (a : Nat → Nat → Int32) (b : Nat → Nat → Int64) (f : Nat → Nat → Int32) (g : Nat → Nat → Int64) (a' : Nat → Nat → Int32) (b' : Nat → Nat → Int64) (c' : Nat → Int32), L < k + n → k ≤ L → 5 * N = k → Rel N a b f g a' b' c' → ZG X 18 [some (.ref 1003), some (.ref 0), some (.ref 59), some (.int (nI k))] [] (LW a b f g a' b' c') := by
  intro n
  induction n with
  | zero =>
    intro k N a b f g a' b' c' h1 h2
    omega
  | succ n ih =>
    intro k N a b f g a' b' c' h1 h2 hN hR
    have e5 : (nI L - nI 5).toInt = (L : Int) - 5 := by
      rw [Int32.toInt_sub, nI_toInt (by omega), nI_toInt (by decide), Int.bmod_eq_of_le (by omega) (by omega)]
      rfl
    refine z_iload_n hX dL_law_18 rfl ?_
    refine z_aload_n hX dL_law_19 rfl ?_
    refine z_slen hX hS dL_law_20 ?_
    refine z_iconst (v := nI 5) hX dL_law_21 rfl ?_
    refine z_isub hX dL_law_22 ?_
    refine z_icmp_gt (tgt := 898) hX dL_law_23 (by decide) (fun _ => ?_) (fun hc => ?_)
    · refine z_iconst (v := 1) hX dL_law_898 rfl ?_
      exact z_lawret hX hQ dL_law_899
    · rw [Int32.lt_iff_toInt_lt, e5, nI_toInt (by omega)] at hc
      have hk : k + 5 ≤ L := by omega
      have next : ∀ (a1 : Nat → Nat → Int32) (b1 : Nat → Nat → Int64) (f1 : Nat → Nat → Int32) (g1 : Nat → Nat → Int64) (a2 : Nat → Nat → Int32) (b2 : Nat → Nat → Int64) (c2 : Nat → Int32), Rel (N + 1) a1 b1 f1 g1 a2 b2 c2 → ZG X 892 [some (.ref 1003), some (.ref 0), some (.ref 59), some (.int (nI k))] [] (LW a1 b1 f1 g1 a2 b2 c2) := by
        intro a1 b1 f1 g1 a2 b2 c2 hR1
        refine z_iincN (b := 5) (ls' := [some (.ref 1003), some (.ref 0), some (.ref 59), some (.int (nI (k + 5)))]) hX dL_law_892 rfl rfl rfl ?_
        refine z_goto (tgt := 18) hX dL_law_895 (by decide) ?_
        exact ih (k + 5) (N + 1) a1 b1 f1 g1 a2 b2 c2 (by omega) (by omega) (by omega) hR1
      refine z_aload_n hX dL_law_26 rfl ?_
      refine z_iload_n hX dL_law_27 rfl ?_
      refine z_sld hX hS dL_law_28 (by omega) (by omega) ?_
      refine z_bipush (v := nI 31) hX dL_law_29 rfl ?_
      refine z_iand hX dL_law_31 ?_
      obtain ⟨j, hj, hx⟩ := and31 (xs k)
      rw [hx]
      have hi : (nI j).toInt = (j : Int) := nI_toInt (by omega)
      by_cases hj2 : 22 ≤ j
      · exact z_tout (tgt := 892) hX dL_law_32 (Or.inr (by rw [hi]; omega)) (by decide) (next a b f g a' b' c' (Rel_up hR))
      · rcases (show j = 0 ∨ j = 1 ∨ j = 2 ∨ j = 3 ∨ j = 4 ∨ j = 5 ∨ j = 6 ∨ j = 7 ∨ j = 8 ∨ j = 9 ∨ j = 10 ∨ j = 11 ∨ j = 12 ∨ j = 13 ∨ j = 14 ∨ j = 15 ∨ j = 16 ∨ j = 17 ∨ j = 18 ∨ j = 19 ∨ j = 20 ∨ j = 21 by omega) with e | e | e | e | e | e | e | e | e | e | e | e | e | e | e | e | e | e | e | e | e | e <;> subst e
        · exact z_tin (off := 104) (tgt := 136) hX dL_law_32 (by decide) (by decide) (by decide +kernel) (by decide) (lc_0 hX hS hL hk hN a b f g a' b' c' hR next)
        · exact z_tin (off := 137) (tgt := 169) hX dL_law_32 (by decide) (by decide) (by decide +kernel) (by decide) (lc_1 hX hS hL hk hN a b f g a' b' c' hR next)
        · exact z_tin (off := 160) (tgt := 192) hX dL_law_32 (by decide) (by decide) (by decide +kernel) (by decide) (lc_2 hX hS hL hk hN a b f g a' b' c' hR next)
        · exact z_tin (off := 184) (tgt := 216) hX dL_law_32 (by decide) (by decide) (by decide +kernel) (by decide) (lc_3 hX hS hL hk hN a b f g a' b' c' hR next)
        · exact z_tin (off := 198) (tgt := 230) hX dL_law_32 (by decide) (by decide) (by decide +kernel) (by decide) (lc_4 hX hS hL hk hN a b f g a' b' c' hR next)
        · exact z_tin (off := 241) (tgt := 273) hX dL_law_32 (by decide) (by decide) (by decide +kernel) (by decide) (lc_5 hX hS hL hk hN a b f g a' b' c' hR next)
        · exact z_tin (off := 264) (tgt := 296) hX dL_law_32 (by decide) (by decide) (by decide +kernel) (by decide) (lc_6 hX hS hL hk hN a b f g a' b' c' hR next)
        · exact z_tin (off := 317) (tgt := 349) hX dL_law_32 (by decide) (by decide) (by decide +kernel) (by decide) (lc_7 hX hS hL hk hN a b f g a' b' c' hR next)
        · exact z_tin (off := 370) (tgt := 402) hX dL_law_32 (by decide) (by decide) (by decide +kernel) (by decide) (lc_8 hX hS hL hk hN a b f g a' b' c' hR next)
        · exact z_tin (off := 403) (tgt := 435) hX dL_law_32 (by decide) (by decide) (by decide +kernel) (by decide) (lc_9 hX hS hL hk hN a b f g a' b' c' hR next)
        · exact z_tin (off := 452) (tgt := 484) hX dL_law_32 (by decide) (by decide) (by decide +kernel) (by decide) (lc_10 hX hS hL hk hN a b f g a' b' c' hR next)
        · exact z_tin (off := 485) (tgt := 517) hX dL_law_32 (by decide) (by decide) (by decide +kernel) (by decide) (lc_11 hX hS hL hk hN a b f g a' b' c' hR next)
        · exact z_tin (off := 519) (tgt := 551) hX dL_law_32 (by decide) (by decide) (by decide +kernel) (by decide) (lc_12 hX hS hL hk hN a b f g a' b' c' hR next)
        · exact z_tin (off := 553) (tgt := 585) hX dL_law_32 (by decide) (by decide) (by decide +kernel) (by decide) (lc_13 hX hS hL hk hN a b f g a' b' c' hR next)
        · exact z_tin (off := 597) (tgt := 629) hX dL_law_32 (by decide) (by decide) (by decide +kernel) (by decide) (lc_14 hX hS hL hk hN a b f g a' b' c' hR next)
        · exact z_tin (off := 630) (tgt := 662) hX dL_law_32 (by decide) (by decide) (by decide +kernel) (by decide) (lc_15 hX hS hL hk hN a b f g a' b' c' hR next)
        · exact z_tin (off := 654) (tgt := 686) hX dL_law_32 (by decide) (by decide) (by decide +kernel) (by decide) (lc_16 hX hS hL hk hN a b f g a' b' c' hR next)
        · exact z_tin (off := 688) (tgt := 720) hX dL_law_32 (by decide) (by decide) (by decide +kernel) (by decide) (lc_17 hX hS hL hk hN a b f g a' b' c' hR next)
        · exact z_tin (off := 722) (tgt := 754) hX dL_law_32 (by decide) (by decide) (by decide +kernel) (by decide) (lc_18 hX hS hL hk hN a b f g a' b' c' hR next)
        · exact z_tin (off := 771) (tgt := 803) hX dL_law_32 (by decide) (by decide) (by decide +kernel) (by decide) (lc_19 hX hS hL hk hN a b f g a' b' c' hR next)
        · exact z_tin (off := 804) (tgt := 836) hX dL_law_32 (by decide) (by decide) (by decide +kernel) (by decide) (lc_20 hX hS hL hk hN a b f g a' b' c' hR next)
        · exact z_tin (off := 837) (tgt := 869) hX dL_law_32 (by decide) (by decide) (by decide +kernel) (by decide) (lc_21 hX hS hL hk hN a b f g a' b' c' hR next)
