/-! ===== each call keeps both sides alike: winds, sheets, sources ===== -/
def StI (N : Nat) (r r' : Option Value) (w w' : ZW) : Prop := ∃ (a : Nat → Nat → Int32) (b : Nat → Nat → Int64) (f : Nat → Nat → Int32) (g : Nat → Nat → Int64) (a' : Nat → Nat → Int32) (b' : Nat → Nat → Int64) (c' : Nat → Int32) (v : Int32), w = WB a b f g ∧ w' = WM a' b' c' ∧ Rel N a b f g a' b' c' ∧ r = some (.int v) ∧ r' = some (.int v)
def StL (N : Nat) (r r' : Option Value) (w w' : ZW) : Prop := ∃ (a : Nat → Nat → Int32) (b : Nat → Nat → Int64) (f : Nat → Nat → Int32) (g : Nat → Nat → Int64) (a' : Nat → Nat → Int32) (b' : Nat → Nat → Int64) (c' : Nat → Int32) (v : Int64), w = WB a b f g ∧ w' = WM a' b' c' ∧ Rel N a b f g a' b' c' ∧ r = some (.long v) ∧ r' = some (.long v)
theorem nI_ij {i j : Nat} (hi : i < 2147483648) (hj : j < 2147483648) (h : nI i = nI j) : i = j := (nI_eq hi hj).mp h
theorem WH_WM (a : Nat → Nat → Int32) (b : Nat → Nat → Int64) (c : Nat → Int32) (m h : Nat → Int64) : WH a b c m h = WM a (va_up (va_up b 2 m) 3 h) c := rfl
section KS
variable {N : Nat} {a f a' : Nat → Nat → Int32} {b g b' : Nat → Nat → Int64} {c' : Nat → Int32}
theorem sti (h : Rel N a b f g a' b' c') {r r' : Option Value} {w w' : ZW} {v v' : Int32} (e1 : w = WB a b f g) (e2 : w' = WM a' b' c') (e3 : r = some (.int v)) (e4 : r' = some (.int v')) (e : v = v') : StI (N + 1) r r' w w' := ⟨a, b, f, g, a', b', c', v, e1, e2, Rel_up h, e3, by rw [e4, e]⟩
theorem stl (h : Rel N a b f g a' b' c') {r r' : Option Value} {w w' : ZW} {v v' : Int64} (e1 : w = WB a b f g) (e2 : w' = WM a' b' c') (e3 : r = some (.long v)) (e4 : r' = some (.long v')) (e : v = v') : StL (N + 1) r r' w w' := ⟨a, b, f, g, a', b', c', v, e1, e2, Rel_up h, e3, by rw [e4, e]⟩
theorem k_wind (hR : Rel N a b f g a' b' c') (x y : Int32) : ∃ P5 P6, (∀ l, ZC l yX5_wind cX5_wind 4 (some .int) 2 [.ref 0, .int x, .int y] (WB a b f g) P5) ∧ (∀ l, ZC l yX6_wind cX6_wind 4 (some .int) 1 [.ref 0, .int x, .int y] (WM a' b' c') P6) ∧ ∀ r r' w w', P5 r w → P6 r' w' → StI (N + 1) r r' w w' := by
  refine ⟨_, _, c_X5_wind a b f g x y, c_X6_wind a' b' c' x y, ?_⟩
  intro r r' w w' h5 h6
  rcases h5 with ⟨n5, r5, w5⟩ | ⟨j, h1, nt1, j1, j2, j3, j4, j5, j6, j7, j8⟩
  · rcases h6 with ⟨n6, r6, w6⟩ | ⟨i, i1, i2, i3, i4, i5⟩
    · exact sti hR w5 w6 r5 r6 rfl
    · exact absurd ⟨⟨i, i1, i2⟩, i3⟩ n5
  · rcases h6 with ⟨n6, r6, w6⟩ | ⟨i, i1, i2, i3, i4, i5⟩
    · exact absurd ⟨⟨j, j1, j2⟩, j3⟩ n6
    · have e := nI_ij (by omega) (by omega) (j2.symm.trans i2)
      subst e
      obtain ⟨⟨a1, a2, a3, a4⟩, hR2, ⟨tm, t1, t2, t3, t4⟩, hR4, hR5⟩ := hR
      have he : ∀ k, k < 24 → upd (a 2) j y k = upd (a' 1) j y k := fun k hk => by
        unfold upd
        rw [(a1 k hk).1]
      have hw : ∀ k, k < 24 → zB (upd (a' 1) j y k) (-100) 100 := fun k hk => by
        unfold upd
        by_cases e : k = j
        · rw [if_pos e]
          exact j3
        · rw [if_neg e]
          exact (a1 k hk).2
      obtain ⟨s1, s2⟩ := settle_ok (fun k hk => by rw [he k hk]; exact hw k hk) j6 j7 j8
      have hH : HT (upd (a 2) j y) = HT (upd (a' 1) j y) := funext (fun q => HT_congr he q)
      refine ⟨va_up a 2 (upd (a 2) j y), va_up (va_up b 3 h1) 4 nt1, f, g, va_up a' 1 (upd (a' 1) j y), b', c', a 2 j, j5, i5, ⟨⟨fun q hq => ⟨he q hq, hw q hq⟩, fun q hq => ?_, fun q hq => ?_, a4⟩, R2_fr hR2 (fun p h1 h2 => va_up_ne _ _ (by omega)) (fun _ _ _ => rfl), ⟨tm, by omega, t2, t3, R3_fr t4 (fun p h1 h2 => va_up_ne _ _ (by omega)) (fun p h1 h2 => by rw [va_up_ne _ _ (by omega), va_up_ne _ _ (by omega)]) (fun _ _ _ => rfl) (fun _ _ _ => rfl)⟩, R4_fr hR4 (fun p h1 h2 => va_up_ne _ _ (by omega)) (fun p h1 h2 => by rw [va_up_ne _ _ (by omega), va_up_ne _ _ (by omega)]) (fun _ _ _ => rfl), R5_fr hR5 (va_up_ne _ _ (by decide)) rfl rfl rfl rfl⟩, j4, by rw [i4, (a1 j j1).1]⟩
      · show h1 q = HT (upd (a' 1) j y) q
        rw [s1 q hq, hH]
      · show nt1 q = stillF (upd (a' 1) j y) (HT (upd (a' 1) j y)) q
        rw [s2 q hq, hH]
        unfold stillF
        rw [he q hq]
theorem k_gives (hR : Rel N a b f g a' b' c') (x : Int32) : ∃ P5 P6, (∀ l, ZC l yX5_gives cX5_gives 2 (some .int) 1 [.ref 0, .int x] (WB a b f g) P5) ∧ (∀ l, ZC l yX6_gives cX6_gives 2 (some .int) 4 [.ref 0, .int x] (WM a' b' c') P6) ∧ ∀ r r' w w', P5 r w → P6 r' w' → StI (N + 1) r r' w w' := by
  refine ⟨_, _, c_X5_gives a b f g x, c_X6_gives a' b' c' x, ?_⟩
  intro r r' w w' h5 h6
  obtain ⟨w5, h5⟩ := h5
  obtain ⟨w6, h6⟩ := h6
  rcases h5 with ⟨n5, r5⟩ | ⟨j, j1, j2, r5⟩
  · rcases h6 with ⟨n6, r6⟩ | ⟨i, i1, i2, r6⟩
    · exact sti hR w5 w6 r5 r6 rfl
    · exact absurd ⟨i, i1, i2⟩ n5
  · rcases h6 with ⟨n6, r6⟩ | ⟨i, i1, i2, r6⟩
    · exact absurd ⟨j, j1, j2⟩ n6
    · have e := nI_ij (by omega) (by omega) (j2.symm.trans i2)
      subst e
      exact sti hR w5 w6 r5 r6 (by rw [surF_congr (fun k hk => (hR.1.1 k hk).1) j1, sur_give _ j1])
theorem R1_h {m h1 : Nat → Int64} (h : R1 a b a' b') (hh : ∀ q, q < 10 → h1 q = HT (a' 1) q) : R1 a b a' (va_up (va_up b' 2 m) 3 h1) := ⟨h.1, h.2.1, h.2.2.1, by
  show h1 9 = 0
  rw [hh 9 (by omega)]
  rfl⟩
theorem k_still (hR : Rel N a b f g a' b' c') (x : Int32) : ∃ P5 P6, (∀ l, ZC l yX5_still cX5_still 2 (some .long) 1 [.ref 0, .int x] (WB a b f g) P5) ∧ (∀ l, ZC l yX6_still cX6_still 2 (some .long) 5 [.ref 0, .int x] (WM a' b' c') P6) ∧ ∀ r r' w w', P5 r w → P6 r' w' → StL (N + 1) r r' w w' := by
  refine ⟨_, _, c_X5_still a b f g x, c_X6_still a' b' c' (fun k hk => (hR.1.1 k hk).2) hR.1.2.2.2 x, ?_⟩
  intro r r' w w' h5 h6
  obtain ⟨w5, h5⟩ := h5
  rcases h5 with ⟨n5, r5⟩ | ⟨j, j1, j2, r5⟩
  · rcases h6 with ⟨n6, r6, w6⟩ | ⟨i, m, h1, i1, i2, i3, i4, r6⟩
    · exact stl hR w5 w6 r5 r6 rfl
    · exact absurd ⟨i, i1, i2⟩ n5
  · rcases h6 with ⟨n6, r6, w6⟩ | ⟨i, m, h1, i1, i2, i3, w6, r6⟩
    · exact absurd ⟨j, j1, j2⟩ n6
    · have e := nI_ij (by omega) (by omega) (j2.symm.trans i2)
      subst e
      have hR' : Rel N a b f g a' (va_up (va_up b' 2 m) 3 h1) c' := ⟨R1_h hR.1 i3, hR.2⟩
      exact stl hR' w5 (w6.trans (WH_WM _ _ _ _ _)) r5 r6 (hR.1.2.2.1 j j1)
theorem k_change (hR : Rel N a b f g a' b' c') : ∃ P5 P6, (∀ l, ZC l yX5_change cX5_change 1 (some .long) 2 [.ref 0] (WB a b f g) P5) ∧ (∀ l, ZC l yX6_change cX6_change 6 (some .long) 5 [.ref 0] (WM a' b' c') P6) ∧ ∀ r r' w w', P5 r w → P6 r' w' → StL (N + 1) r r' w w' := by
  refine ⟨_, _, c_X5_change a b f g, c_X6_change a' b' c' (fun k hk => (hR.1.1 k hk).2) hR.1.2.2.2, ?_⟩
  intro r r' w w' h5 h6
  obtain ⟨w5, r5⟩ := h5
  obtain ⟨m, h1, i3, w6, r6⟩ := h6
  have hR' : Rel N a b f g a' (va_up (va_up b' 2 m) 3 h1) c' := ⟨R1_h hR.1 i3, hR.2⟩
  exact stl hR' w5 (w6.trans (WH_WM _ _ _ _ _)) r5 r6 (chF_congr hR.1.2.1 24)
/-! sheets -/
theorem R2_at {a4 a5 a6 : Nat → Int32} (h : R2 a f a4 a5 a6) {s : Nat} (hs : s < 4) {l : Nat} (hl : l < 2) : ((¬ f (6 + 2 * s) 0 = 0 ∧ f (6 + 2 * s) 1 = nI l) ↔ a4 s = nI l) ∧ (f (6 + 2 * s) 0 = 0 ↔ ¬ 0 ≤ a4 s) := by
  obtain ⟨-, h2, -⟩ := h s hs
  rcases h2 with ⟨e1, e2⟩ | ⟨e1, k, hk, e2, e3⟩
  · rw [e1, e2]
    refine ⟨⟨fun q => absurd rfl q.1, fun q => ?_⟩, ⟨fun _ => by decide, fun _ => rfl⟩⟩
    rcases (show l = 0 ∨ l = 1 by omega) with e | e <;> subst e <;> exact absurd q (by decide)
  · rw [e1, e2, e3]
    refine ⟨⟨fun q => q.2, fun q => ⟨by decide, q⟩⟩, ⟨fun q => absurd q (by decide), fun q => absurd (nI_pos' (by omega)) q⟩⟩
theorem k_sheet (hR : Rel N a b f g a' b' c') (x y z : Int32) : ∃ P5 P6, (∀ l, ZC l yX5_sheet cX5_sheet 4 (some .int) 2 [.ref 0, .int x, .int y, .int z] (WB a b f g) P5) ∧ (∀ l, ZC l yX6_sheet cX6_sheet 5 (some .int) 2 [.ref 0, .int x, .int y, .int z] (WM a' b' c') P6) ∧ ∀ r r' w w', P5 r w → P6 r' w' → StI (N + 1) r r' w w' := by
  refine ⟨_, _, c_X5_sheet a b f g x y z, c_X6_sheet a' b' c' x y z, ?_⟩
  intro r r' w w' h5 h6
  have key : ∀ s l k : Nat, s < 4 → l < 2 → k < 25 → x = nI s → y = nI l → z = nI k → (zJ x 4 ∧ zJ y 2) ∧ z ≤ nI 24 ∧ 0 ≤ z := fun s l k h1 h2 h3 e1 e2 e3 => ⟨⟨⟨s, h1, e1⟩, ⟨l, h2, e2⟩⟩, by rw [e3]; exact nI_le (by omega) (by decide), by rw [e3]; exact nI_pos' (by omega)⟩
  rcases h5 with ⟨n5, r5, w5⟩ | ⟨p5, q5, n5, r5, w5⟩ | ⟨s, l, k, it, F, s1, s2, s3, s4, s5, s6, r5, s7, s8, s9, s10, w5⟩
  · rcases h6 with ⟨n6, r6, w6⟩ | ⟨p6, q6, n6, r6, w6⟩ | ⟨s, l, k, it, s1, s2, s3, s4, s5, s6, r6, s7, w6⟩
    · exact sti hR w5 w6 r5 r6 rfl
    · exact absurd n5 (fun q => q.elim (fun q => q p6) (fun q => q q6))
    · have q := key s l k s1 s2 s3 s4 s5 s6
      exact absurd n5 (fun z => z.elim (fun z => z q.1) (fun z => z q.2.1))
  · rcases h6 with ⟨n6, r6, w6⟩ | ⟨p6, q6, n6, r6, w6⟩ | ⟨s, l, k, it, s1, s2, s3, s4, s5, s6, r6, s7, w6⟩
    · exact absurd n6 (fun q => q.elim (fun q => q p5) (fun q => q q5))
    · exact sti hR w5 w6 r5 r6 rfl
    · exact absurd (key s l k s1 s2 s3 s4 s5 s6).2.2 n5
  · have q := key s l k s1 s2 s3 s4 s5 s6
    rcases h6 with ⟨n6, r6, w6⟩ | ⟨p6, q6, n6, r6, w6⟩ | ⟨s', l', k', it', t1, t2, t3, t4, t5, t6, r6, t7, w6⟩
    · exact absurd n6 (fun z => z.elim (fun z => z q.1) (fun z => z q.2.1))
    · exact absurd q.2.2 n6
    · have e1 := nI_ij (by omega) (by omega) (s4.symm.trans t4)
      have e2 := nI_ij (by omega) (by omega) (s5.symm.trans t5)
      have e3 := nI_ij (by omega) (by omega) (s6.symm.trans t6)
      subst e1
      subst e2
      subst e3
      obtain ⟨hR1, hR2, ⟨tm, u1, u2, u3, u4⟩, hR4, hR5⟩ := hR
      refine ⟨va_up a (7 + 2 * s) it, b, va_up f (6 + 2 * s) F, g, va_up (va_up (va_up a' 4 (upd (a' 4) s (nI l))) 5 (upd (a' 5) s (nI k))) 6 it', b', c', nI k, w5, w6, ⟨⟨fun q hq => ?_, hR1.2⟩, fun s' hs' => ?_, ⟨tm, by omega, ?_, u3, R3_fr u4 (fun p h1 h2 => va_up_ne _ _ (by omega)) (fun _ _ _ => rfl) (fun p h1 h2 => va_up_ne _ _ (by omega)) (fun _ _ _ => rfl)⟩, R4_fr hR4 (fun p h1 h2 => va_up_ne _ _ (by omega)) (fun _ _ _ => rfl) (fun p h1 h2 => va_up_ne _ _ (by omega)), R5_fr hR5 (va_up_ne _ _ (by omega)) (by rw [va_up_ne _ _ (by omega)]) (by rw [va_up_ne _ _ (by omega)]) rfl rfl⟩, r5, r6⟩
      · rw [va_up_ne _ _ (by omega)]
        exact hR1.1 q hq
      · show (∃ n, n ≤ 24 ∧ va_up f (6 + 2 * s) F (6 + 2 * s') 2 = nI n ∧ upd (a' 5) s (nI k) s' = nI n) ∧ ((va_up f (6 + 2 * s) F (6 + 2 * s') 0 = 0 ∧ upd (a' 4) s (nI l) s' = -1) ∨ (va_up f (6 + 2 * s) F (6 + 2 * s') 0 = 1 ∧ ∃ l', l' < 2 ∧ va_up f (6 + 2 * s) F (6 + 2 * s') 1 = nI l' ∧ upd (a' 4) s (nI l) s' = nI l')) ∧ ∀ q, q < 24 → va_up a (7 + 2 * s) it (7 + 2 * s') q = it' (24 * s' + q)
        by_cases e : s' = s
        · subst e
          unfold upd
          rw [va_up_self, va_up_self, if_pos rfl, if_pos rfl]
          refine ⟨⟨k, by omega, s10, rfl⟩, Or.inr ⟨s8, l, s2, s9, rfl⟩, fun q hq => ?_⟩
          rw [s7 q hq, t7, if_pos (by omega)]
        · unfold upd
          rw [va_up_ne f F (show 6 + 2 * s' ≠ 6 + 2 * s by omega), va_up_ne a it (show 7 + 2 * s' ≠ 7 + 2 * s by omega), if_neg e, if_neg e]
          obtain ⟨v1, v2, v3⟩ := hR2 s' hs'
          refine ⟨v1, v2, fun q hq => ?_⟩
          rw [v3 q hq, t7, if_neg (by omega)]
      · rw [va_up_ne _ _ (by omega)]
        exact u2
theorem k_drop (hR : Rel N a b f g a' b' c') (x : Int32) : ∃ P5 P6, (∀ l, ZC l yX5_drop cX5_drop 3 (some .int) 1 [.ref 0, .int x] (WB a b f g) P5) ∧ (∀ l, ZC l yX6_drop cX6_drop 2 (some .int) 1 [.ref 0, .int x] (WM a' b' c') P6) ∧ ∀ r r' w w', P5 r w → P6 r' w' → StI (N + 1) r r' w w' := by
  refine ⟨_, _, c_X5_drop a b f g x, c_X6_drop a' b' c' x, ?_⟩
  intro r r' w w' h5 h6
  rcases h5 with ⟨n5, r5, w5⟩ | ⟨s, s1, s2, h5⟩
  · rcases h6 with ⟨n6, r6, w6⟩ | ⟨s, s1, s2, h6⟩
    · exact sti hR w5 w6 r5 r6 rfl
    · exact absurd ⟨s, s1, s2⟩ n5
  · rcases h6 with ⟨n6, r6, w6⟩ | ⟨s', t1, t2, h6⟩
    · exact absurd ⟨s, s1, s2⟩ n6
    · have e1 := nI_ij (by omega) (by omega) (s2.symm.trans t2)
      subst e1
      have z := (R2_at hR.2.1 s1 (l := 0) (by omega)).2
      rcases h5 with ⟨n5, r5, w5⟩ | ⟨n5, r5, w5⟩
      · rcases h6 with ⟨n6, r6, w6⟩ | ⟨n6, r6, w6⟩
        · exact sti hR w5 w6 r5 r6 rfl
        · exact absurd n6 (z.mp n5)
      · rcases h6 with ⟨n6, r6, w6⟩ | ⟨n6, r6, w6⟩
        · exact absurd (z.mpr n6) n5
        · obtain ⟨hR1, hR2, ⟨tm, u1, u2, u3, u4⟩, hR4, hR5⟩ := hR
          refine ⟨a, b, va_up f (6 + 2 * s) (va_up (f (6 + 2 * s)) 0 (nI 0)), g, va_up a' 4 (upd (a' 4) s (-1)), b', c', f (6 + 2 * s) 2, w5, w6, ⟨hR1, fun s' hs' => ?_, ⟨tm, by omega, ?_, u3, R3_fr u4 (fun _ _ _ => rfl) (fun _ _ _ => rfl) (fun p h1 h2 => va_up_ne _ _ (by omega)) (fun _ _ _ => rfl)⟩, R4_fr hR4 (fun _ _ _ => rfl) (fun _ _ _ => rfl) (fun p h1 h2 => va_up_ne _ _ (by omega)), R5_fr hR5 rfl (by rw [va_up_ne _ _ (by omega)]) (by rw [va_up_ne _ _ (by omega)]) rfl rfl⟩, r5, ?_⟩
          · show (∃ n, n ≤ 24 ∧ va_up f (6 + 2 * s) (va_up (f (6 + 2 * s)) 0 (nI 0)) (6 + 2 * s') 2 = nI n ∧ a' 5 s' = nI n) ∧ ((va_up f (6 + 2 * s) (va_up (f (6 + 2 * s)) 0 (nI 0)) (6 + 2 * s') 0 = 0 ∧ upd (a' 4) s (-1) s' = -1) ∨ (va_up f (6 + 2 * s) (va_up (f (6 + 2 * s)) 0 (nI 0)) (6 + 2 * s') 0 = 1 ∧ ∃ l', l' < 2 ∧ va_up f (6 + 2 * s) (va_up (f (6 + 2 * s)) 0 (nI 0)) (6 + 2 * s') 1 = nI l' ∧ upd (a' 4) s (-1) s' = nI l')) ∧ ∀ q, q < 24 → a (7 + 2 * s') q = a' 6 (24 * s' + q)
            obtain ⟨v1, v2, v3⟩ := hR2 s' hs'
            unfold upd
            by_cases e : s' = s
            · subst e
              rw [va_up_self, if_pos rfl]
              exact ⟨v1, Or.inl ⟨rfl, rfl⟩, v3⟩
            · rw [va_up_ne f _ (show 6 + 2 * s' ≠ 6 + 2 * s by omega), if_neg e]
              exact ⟨v1, v2, v3⟩
          · rw [va_up_ne _ _ (by omega)]
            exact u2
          · obtain ⟨n, -, m1, m2⟩ := (hR2 s s1).1
            rw [r6, m1, m2]
theorem k_item (hR : Rel N a b f g a' b' c') (x y i v : Int32) : ∃ P5 P6, (∀ l, ZC l yX5_item cX5_item 6 (some .int) 1 [.ref 0, .int x, .int y, .int i, .int v] (WB a b f g) P5) ∧ (∀ l, ZC l yX6_item cX6_item 6 (some .int) 2 [.ref 0, .int x, .int y, .int i, .int v] (WM a' b' c') P6) ∧ ∀ r r' w w', P5 r w → P6 r' w' → StI (N + 1) r r' w w' := by
  refine ⟨_, _, c_X5_item a b f g (fun s hs => by obtain ⟨n, m1, m2, m3⟩ := (hR.2.1 s hs).1; exact ⟨n, m1, m2⟩) x y i v, c_X6_item a' b' c' (fun s hs => by obtain ⟨n, m1, m2, m3⟩ := (hR.2.1 s hs).1; exact ⟨n, m1, m3⟩) x y i v, ?_⟩
  intro r r' w w' h5 h6
  rcases h5 with ⟨n5, r5, w5⟩ | ⟨s, l, n, s1, s2, s3, s4, s5, s6, h5⟩
  · rcases h6 with ⟨n6, r6, w6⟩ | ⟨s, l, n, s1, s2, s3, s4, s5, s6, h6⟩
    · exact sti hR w5 w6 r5 r6 rfl
    · exact absurd ⟨⟨s, s1, s3⟩, ⟨l, s2, s4⟩⟩ n5
  · rcases h6 with ⟨n6, r6, w6⟩ | ⟨s', l', n', t1, t2, t3, t4, t5, t6, h6⟩
    · exact absurd ⟨⟨s, s1, s3⟩, ⟨l, s2, s4⟩⟩ n6
    · have e1 := nI_ij (by omega) (by omega) (s3.symm.trans t3)
      have e2 := nI_ij (by omega) (by omega) (s4.symm.trans t4)
      subst e1
      subst e2
      obtain ⟨m, m1, m2, m3⟩ := (hR.2.1 s s1).1
      have e3 := nI_ij (by omega) (by omega) (s5.symm.trans m2)
      have e4 := nI_ij (by omega) (by omega) (t5.symm.trans m3)
      subst e3
      subst e4
      obtain ⟨z1, z2⟩ := R2_at hR.2.1 s1 s2
      rw [z1] at h5
      have h5 : (¬ a' 4 s = nI l ∧ ¬ 0 ≤ a' 4 s ∧ r = some (.int (-11)) ∧ w = WB a b f g) ∨ (¬ a' 4 s = nI l ∧ 0 ≤ a' 4 s ∧ r = some (.int (-12)) ∧ w = WB a b f g) ∨ (a' 4 s = nI l ∧ ¬ zJ i n' ∧ r = some (.int (-13)) ∧ w = WB a b f g) ∨ ∃ q, a' 4 s = nI l ∧ q < n' ∧ i = nI q ∧ r = some (.int (nI 1)) ∧ w = WB (va_up a (7 + 2 * s) (upd (a (7 + 2 * s)) q (if l = 0 then v.toInt16.toInt32 else v))) b f g := by
        rcases h5 with ⟨p1, p2, p3⟩ | ⟨p1, p2, p3⟩ | p | p
        · exact Or.inl ⟨p1, z2.mp p2, p3⟩
        · exact Or.inr (Or.inl ⟨p1, Decidable.byContradiction (fun q => p2 (z2.mpr q)), p3⟩)
        · exact Or.inr (Or.inr (Or.inl p))
        · exact Or.inr (Or.inr (Or.inr p))
      rcases h5 with ⟨x1, x2, r5, w5⟩ | ⟨x1, x2, r5, w5⟩ | ⟨x1, x3, r5, w5⟩ | ⟨q, x1, q1, q2, r5, w5⟩ <;> rcases h6 with ⟨y1, y2, r6, w6⟩ | ⟨y1, y2, r6, w6⟩ | ⟨y1, y3, r6, w6⟩ | ⟨p, y1, p1, p2, r6, w6⟩ <;> first | contradiction | exact sti hR w5 w6 r5 r6 rfl | skip
      · exact absurd ⟨p, p1, p2⟩ x3
      · exact absurd ⟨q, q1, q2⟩ y3
      · have e5 := nI_ij (by omega) (by omega) (q2.symm.trans p2)
        subst e5
        obtain ⟨hR1, hR2, ⟨tm, u1, u2, u3, u4⟩, hR4, hR5⟩ := hR
        refine ⟨va_up a (7 + 2 * s) (upd (a (7 + 2 * s)) q (if l = 0 then v.toInt16.toInt32 else v)), b, f, g, va_up a' 6 (upd (a' 6) (24 * s + q) (if l = 0 then shortF v else v)), b', c', nI 1, w5, w6, ⟨⟨fun q hq => ?_, hR1.2⟩, fun s' hs' => ?_, ⟨tm, by omega, u2, u3, R3_fr u4 (fun p h1 h2 => va_up_ne _ _ (by omega)) (fun _ _ _ => rfl) (fun _ _ _ => rfl) (fun _ _ _ => rfl)⟩, R4_fr hR4 (fun p h1 h2 => va_up_ne _ _ (by omega)) (fun _ _ _ => rfl) (fun _ _ _ => rfl), R5_fr hR5 (va_up_ne _ _ (by omega)) rfl rfl rfl rfl⟩, r5, r6⟩
        · rw [va_up_ne _ _ (by omega)]
          exact hR1.1 q hq
        · obtain ⟨v1, v2, v3⟩ := hR2 s' hs'
          refine ⟨v1, v2, fun k hk => ?_⟩
          show va_up a (7 + 2 * s) (upd (a (7 + 2 * s)) q (if l = 0 then v.toInt16.toInt32 else v)) (7 + 2 * s') k = upd (a' 6) (24 * s + q) (if l = 0 then shortF v else v) (24 * s' + k)
          rw [short_ok]
          unfold upd
          by_cases e : s' = s
          · subst e
            rw [va_up_self]
            by_cases e2 : k = q
            · rw [if_pos e2, if_pos (show 24 * s' + k = 24 * s' + q by omega)]
            · rw [if_neg e2, if_neg (show ¬ 24 * s' + k = 24 * s' + q by omega), v3 k hk]
          · rw [va_up_ne a _ (show 7 + 2 * s' ≠ 7 + 2 * s by omega), if_neg (show ¬ 24 * s' + k = 24 * s + q by omega), v3 k hk]
theorem srcF_congr {it im : Nat → Int32} {s : Nat} (h : ∀ q, q < 24 → it q = im (24 * s + q)) : ∀ n, n ≤ 24 → srcF it 0 n = srcF im s n
  | 0, _ => rfl
  | n + 1, hn => by
    have e : srcF it 0 (n + 1) = srcF it 0 n + it (24 * 0 + n) := rfl
    have e' : srcF im s (n + 1) = srcF im s n + im (24 * s + n) := rfl
    rw [e, e', srcF_congr h n (by omega), show 24 * 0 + n = n by omega, h n (by omega)]
theorem k_source (hR : Rel N a b f g a' b' c') (x y z u : Int32) : ∃ P5 P6, (∀ l, ZC l yX5_source cX5_source 6 (some .int) 1 [.ref 0, .int x, .int y, .int z, .int u] (WB a b f g) P5) ∧ (∀ l, ZC l yX6_source cX6_source 8 (some .int) 2 [.ref 0, .int x, .int y, .int z, .int u] (WM a' b' c') P6) ∧ ∀ r r' w w', P5 r w → P6 r' w' → StI (N + 1) r r' w w' := by
  refine ⟨_, _, c_X5_source a b f g (fun s hs => by obtain ⟨n, m1, m2, m3⟩ := (hR.2.1 s hs).1; exact ⟨n, m1, m2⟩) x y z u, c_X6_source a' b' c' (fun s hs => by obtain ⟨n, m1, m2, m3⟩ := (hR.2.1 s hs).1; exact ⟨n, m1, m3⟩) x y z u, ?_⟩
  intro r r' w w' h5 h6
  rcases h5 with ⟨n5, r5, w5⟩ | ⟨t, h, s, l, n, s1, s2, s3, s4, s5, s6, s7, s8, s9, s10, h5⟩
  · rcases h6 with ⟨n6, r6, w6⟩ | ⟨t, h, s, l, n, s1, s2, s3, s4, s5, s6, s7, s8, s9, s10, h6⟩
    · exact sti hR w5 w6 r5 r6 rfl
    · exact absurd ⟨⟨t, s1, s5⟩, ⟨h, s2, s6⟩, ⟨s, s3, s7⟩, ⟨l, s4, s8⟩⟩ n5
  · rcases h6 with ⟨n6, r6, w6⟩ | ⟨t', h', s', l', n', t1, t2, t3, t4, t5, t6, t7, t8, t9, t10, h6⟩
    · exact absurd ⟨⟨t, s1, s5⟩, ⟨h, s2, s6⟩, ⟨s, s3, s7⟩, ⟨l, s4, s8⟩⟩ n6
    · have e1 := nI_ij (by omega) (by omega) (s5.symm.trans t5)
      have e2 := nI_ij (by omega) (by omega) (s6.symm.trans t6)
      have e3 := nI_ij (by omega) (by omega) (s7.symm.trans t7)
      have e4 := nI_ij (by omega) (by omega) (s8.symm.trans t8)
      subst e1
      subst e2
      subst e3
      subst e4
      obtain ⟨m, m1, m2, m3⟩ := (hR.2.1 s s3).1
      have e5 := nI_ij (by omega) (by omega) (s9.symm.trans m2)
      have e6 := nI_ij (by omega) (by omega) (t9.symm.trans m3)
      subst e5
      subst e6
      obtain ⟨z1, z2⟩ := R2_at hR.2.1 s3 s4
      have v3 := (hR.2.1 s s3).2.2
      have hz : (∀ q, q < 24 → zB (a (7 + 2 * s) q) 0 1000000) ↔ (∀ k, k < 24 → zB (a' 6 (24 * s + k)) 0 1000000) := ⟨fun q k hk => by rw [← v3 k hk]; exact q k hk, fun q k hk => by rw [v3 k hk]; exact q k hk⟩
      rw [z1, hz] at h5
      have h5 : (¬ a' 4 s = nI l ∧ ¬ 0 ≤ a' 4 s ∧ r = some (.int (-11)) ∧ w = WB a b f g) ∨ (¬ a' 4 s = nI l ∧ 0 ≤ a' 4 s ∧ r = some (.int (-12)) ∧ w = WB a b f g) ∨ (a' 4 s = nI l ∧ n' < 24 ∧ r = some (.int (-13)) ∧ w = WB a b f g) ∨ (a' 4 s = nI l ∧ 24 ≤ n' ∧ ¬ (∀ k, k < 24 → zB (a' 6 (24 * s + k)) 0 1000000) ∧ r = some (.int (-2)) ∧ w = WB a b f g) ∨ ∃ rt, a' 4 s = nI l ∧ 24 ≤ n' ∧ (∀ k, k < 24 → zB (a' 6 (24 * s + k)) 0 1000000) ∧ r = some (.int (srcF (a (7 + 2 * s)) 0 24)) ∧ (∀ q, rt q = if q < 24 then a (7 + 2 * s) q else a (16 + 4 * t) q) ∧ w = WB (va_up a (16 + 4 * t) rt) b (va_up f (15 + 4 * t) (fun _ => nI h)) g := by
        rcases h5 with ⟨p1, p2, p3⟩ | ⟨p1, p2, p3⟩ | ⟨p1, p2, p3⟩ | ⟨p1, p2, p3⟩ | ⟨rt, p1, p2, p3⟩
        · exact Or.inl ⟨p1, z2.mp p2, p3⟩
        · exact Or.inr (Or.inl ⟨p1, Decidable.byContradiction (fun q => p2 (z2.mpr q)), p3⟩)
        · exact Or.inr (Or.inr (Or.inl ⟨p1, by omega, p3⟩))
        · exact Or.inr (Or.inr (Or.inr (Or.inl ⟨p1, by omega, p3⟩)))
        · exact Or.inr (Or.inr (Or.inr (Or.inr ⟨rt, p1, by omega, p3⟩)))
      rcases h5 with ⟨x1, x2, r5, w5⟩ | ⟨x1, x2, r5, w5⟩ | ⟨x1, x3, r5, w5⟩ | ⟨x1, x3, x4, r5, w5⟩ | ⟨rt, x1, x3, x4, r5, x5, w5⟩ <;> rcases h6 with ⟨y1, y2, r6, w6⟩ | ⟨y1, y2, r6, w6⟩ | ⟨y1, y3, r6, w6⟩ | ⟨y1, y3, y4, r6, w6⟩ | ⟨rt', y1, y3, y4, r6, y5, w6⟩ <;> first | contradiction | (exfalso; omega) | exact sti hR w5 w6 r5 r6 rfl | skip
      obtain ⟨hR1, hR2, ⟨tm, u1, u2, u3, u4⟩, hR4, hR5⟩ := hR
      refine ⟨va_up a (16 + 4 * t) rt, b, va_up f (15 + 4 * t) (fun _ => nI h), g, va_up (va_up a' 7 (upd (a' 7) t (nI h))) 8 rt', b', c', srcF (a (7 + 2 * s)) 0 24, w5, w6, ⟨⟨fun q hq => ?_, hR1.2⟩, R2_fr hR2 (fun p h1 h2 => va_up_ne _ _ (by omega)) (fun p h1 h2 => va_up_ne _ _ (by omega)), ⟨tm, by omega, ?_, u3, fun t' ht' => ?_⟩, R4_fr hR4 (fun p h1 h2 => va_up_ne _ _ (by omega)) (fun _ _ _ => rfl) (fun p h1 h2 => va_up_ne _ _ (by omega)), R5_fr hR5 (va_up_ne _ _ (by omega)) (by rw [va_up_ne _ _ (by omega)]) (by rw [va_up_ne _ _ (by omega)]) rfl rfl⟩, r5, ?_⟩
      · rw [va_up_ne _ _ (by omega)]
        exact hR1.1 q hq
      · rw [va_up_ne _ _ (by omega)]
        exact u2
      · obtain ⟨q1, q2, q3⟩ := u4 t' ht'
        show (∃ hm, hm < 9 ∧ va_up f (15 + 4 * t) (fun _ => nI h) (15 + 4 * t') 0 = nI hm ∧ upd (a' 7) t (nI h) t' = nI hm) ∧ (∀ q, q < 24 → va_up a (16 + 4 * t) rt (16 + 4 * t') q = rt' (24 * t' + q) ∧ zB (rt' (24 * t' + q)) 0 1000000) ∧ _
        refine ⟨?_, ?_, q3⟩
        · unfold upd
          by_cases e : t' = t
          · subst e
            rw [va_up_self, if_pos rfl]
            exact ⟨h, s2, rfl, rfl⟩
          · rw [va_up_ne f _ (show 15 + 4 * t' ≠ 15 + 4 * t by omega), if_neg e]
            exact q1
        · intro k hk
          by_cases e : t' = t
          · subst e
            rw [va_up_self, x5 k, if_pos hk, y5, if_pos (by omega), show 24 * t' + k - 24 * t' = k by omega]
            exact ⟨v3 k hk, y4 k hk⟩
          · rw [va_up_ne a _ (show 16 + 4 * t' ≠ 16 + 4 * t by omega), y5, if_neg (by omega)]
            exact q2 k hk
      · rw [r6, srcF_congr v3 24 (Nat.le_refl 24)]
end KS
