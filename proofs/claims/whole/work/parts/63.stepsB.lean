/-! ===== each call keeps both sides alike: hours, doors, the law ===== -/
section RO
variable {a f : Nat → Nat → Int32} {b g : Nat → Nat → Int64} {a7 a8 a12 a13 a14 a15 : Nat → Int32} {b9 b10 b16 : Nat → Int64} {T : Int}
theorem R4_lg (h : R4 a b f a12 a13 a14 a15 b16) : okLg f := fun d hd => by
  obtain ⟨bx, lt, cn, q1, q2, q3, q4, q5, q6, q7, q8, q9, q10, q11, q12, q13⟩ := h d hd
  exact ⟨lt, cn, q2, q3, q6, q7⟩
theorem R4_lw (h : R4 a b f a12 a13 a14 a15 b16) : okLw f := fun d hd => by
  obtain ⟨bx, lt, cn, q1, q2, q3, q4, q5, q6, q7, q8, q9, q10, q11, q12, q13⟩ := h d hd
  exact ⟨bx, lt, cn, q1, q2, q3, q4, q6, q7, by rw [q9]; exact q10⟩
theorem R4_M (h : R4 a b f a12 a13 a14 a15 b16) : okM a15 := fun d hd => by
  obtain ⟨bx, lt, cn, q1, q2, q3, q4, q5, q6, q7, q8, q9, q10, q11, q12, q13⟩ := h d hd
  exact ⟨cn, q3, q8⟩
theorem R4_12 (h : R4 a b f a12 a13 a14 a15 b16) : ∀ d, d < 4 → ∃ g, g < 9 ∧ a12 d = nI g := fun d hd => by
  obtain ⟨bx, lt, cn, q1, q2, q3, q4, q5, q6, q7, q8, q9, q10, q11, q12, q13⟩ := h d hd
  exact ⟨bx, q1, q5⟩
theorem R3_hm (h : R3 a b f g a7 a8 b9 b10 T) : okHm f := fun t ht => by
  obtain ⟨hm, q1, q2, q3⟩ := (h t ht).1
  exact ⟨hm, q1, q2⟩
theorem R3_7 (h : R3 a b f g a7 a8 b9 b10 T) : ∀ s, s < 3 → ∃ hm, hm < 9 ∧ a7 s = nI hm := fun t ht => by
  obtain ⟨hm, q1, q2, q3⟩ := (h t ht).1
  exact ⟨hm, q1, q3⟩
theorem R4_at (h : R4 a b f a12 a13 a14 a15 b16) {d lt cn mn : Nat} (hd : d < 4) (hlt : lt < 100) (hcn : cn ≤ 100) (hmn : mn ≤ 100) (e1 : f (28 + 7 * d) 2 = nI lt) (e2 : f (28 + 7 * d) 1 = nI cn) (e3 : a15 d = nI mn) : mn = cn ∧ dRel b16 (b (29 + 7 * d)) (fun i => b (31 + 7 * d + i)) (a (34 + 7 * d)) d lt cn := by
  obtain ⟨bx, lt', cn', q1, q2, q3, q4, q5, q6, q7, q8, q9, q10, q11, q12, q13⟩ := h d hd
  have e4 := nI_ij (by omega) (by omega) (e1.symm.trans q6)
  have e5 := nI_ij (by omega) (by omega) (e2.symm.trans q7)
  have e6 := nI_ij (by omega) (by omega) (e3.symm.trans q8)
  subst e4
  subst e5
  exact ⟨e6, q13⟩
theorem n10 : ∀ c, c ≤ 10 → nI 10 - nI c = nI (10 - c) := by decide +kernel
theorem kc_eq {lw : Nat → Int32} {k0 k1 k2 : Int32} {d lt cn : Nat} (e1 : f (28 + 7 * d) 2 = nI lt) (e2 : f (28 + 7 * d) 1 = nI cn) (hlt : lt < 100) (hcn : cn ≤ 100) : kcP lw (fun p => a (p + 24)) (fun p => b (p + 24)) (fun p => f (p + 24)) k0 k1 k2 d ↔ nI (aaF (b (31 + 7 * d + 0)) (b (31 + 7 * d + 1)) (b (31 + 7 * d + 2)) (a (34 + 7 * d)) lt ((lw 1).toInt64 * 10) (nI 10 - k0) (nI 10 - k1) (nI 10 - k2) cn) ≤ lw 2 := by
  show nI (aaF (b (7 + 7 * d + 24)) (b (8 + 7 * d + 24)) (b (9 + 7 * d + 24)) (a (10 + 7 * d + 24)) (f (4 + 7 * d + 24) 2).toNatClampNeg ((lw 1).toInt64 * 10) (nI 10 - k0) (nI 10 - k1) (nI 10 - k2) (f (4 + 7 * d + 24) 1).toNatClampNeg) ≤ lw 2 ↔ _
  rw [show 7 + 7 * d + 24 = 31 + 7 * d + 0 by omega, show 8 + 7 * d + 24 = 31 + 7 * d + 1 by omega, show 9 + 7 * d + 24 = 31 + 7 * d + 2 by omega, show 10 + 7 * d + 24 = 34 + 7 * d by omega, show 4 + 7 * d + 24 = 28 + 7 * d by omega, e1, e2, nI_clamp (by omega), nI_clamp (by omega)]
theorem kc_iff (h4 : R4 a b f a12 a13 a14 a15 b16) {lw : Nat → Int32} {lim oft : Int32} (e1 : lw 1 = lim) (e2 : lw 2 = oft) {d : Nat} (hd : d < 4) {k0 k1 k2 : Int32} {t : Nat → Int32} (t0 : t 0 = k0) (t1 : t 1 = k1) (t2 : t 2 = k2) : kcP lw (fun p => a (p + 24)) (fun p => b (p + 24)) (fun p => f (p + 24)) k0 k1 k2 d ↔ okD b16 t a14 a15 lim oft d := by
  obtain ⟨bx, lt, cn, q1, q2, q3, q4, q5, q6, q7, q8, q9, q10, q11, q12, q13⟩ := h4 d hd
  rw [kc_eq q6 q7 q2 q3, e1, e2]
  unfold okD kpP
  rw [q8, nI_clamp (by omega), ← ab_ok q13 (t := t) (lim := lim) rfl rfl rfl, t0, t1, t2]
theorem al_iff (h4 : R4 a b f a12 a13 a14 a15 b16) {lw : Nat → Int32} {lim oft : Int32} (e1 : lw 1 = lim) (e2 : lw 2 = oft) {k0 k1 k2 : Int32} {t : Nat → Int32} (t0 : t 0 = k0) (t1 : t 1 = k1) (t2 : t 2 = k2) : alK lw (fun p => a (p + 24)) (fun p => b (p + 24)) (fun p => f (p + 24)) k0 k1 k2 4 ↔ gdP b16 t a14 a15 lim oft 4 := by
  have key : ∀ d, d < 4 → f (4 + 7 * d + 24) 4 = a14 d := fun d hd => by
    obtain ⟨bx, lt, cn, q1, q2, q3, q4, q5, q6, q7, q8, q9, q10, q11, q12, q13⟩ := h4 d hd
    rw [show 4 + 7 * d + 24 = 28 + 7 * d by omega]
    exact q11
  constructor
  · intro q d hd
    rcases q d hd with z | z
    · exact Or.inl ((key d hd).symm.trans z)
    · exact Or.inr ((kc_iff h4 e1 e2 hd t0 t1 t2).mp z)
  · intro q d hd
    rcases q d hd with z | z
    · exact Or.inl ((key d hd).trans z)
    · exact Or.inr ((kc_iff h4 e1 e2 hd t0 t1 t2).mpr z)
theorem al_less (h4 : R4 a b f a12 a13 a14 a15 b16) {lw : Nat → Int32} {c0 c1 c2 e0 e1 e2 : Nat} (h0 : c0 ≤ e0) (h1 : c1 ≤ e1) (h2 : c2 ≤ e2) (l0 : e0 ≤ 10) (l1 : e1 ≤ 10) (l2 : e2 ≤ 10) (h : alK lw (fun p => a (p + 24)) (fun p => b (p + 24)) (fun p => f (p + 24)) (nI c0) (nI c1) (nI c2) 4) : alK lw (fun p => a (p + 24)) (fun p => b (p + 24)) (fun p => f (p + 24)) (nI e0) (nI e1) (nI e2) 4 := by
  intro d hd
  rcases h d hd with z | z
  · exact Or.inl z
  · obtain ⟨bx, lt, cn, q1, q2, q3, q4, q5, q6, q7, q8, q9, q10, q11, q12, q13⟩ := h4 d hd
    rw [kc_eq q6 q7 q2 q3, n10 c0 (by omega), n10 c1 (by omega), n10 c2 (by omega)] at z
    refine Or.inr ?_
    rw [kc_eq q6 q7 q2 q3, n10 e0 l0, n10 e1 l1, n10 e2 l2]
    have m := aa_less q13 (bd := (lw 1).toInt64 * 10) (l0 := 10 - c0) (l1 := 10 - c1) (l2 := 10 - c2) (m0 := 10 - e0) (m1 := 10 - e1) (m2 := 10 - e2) (by omega) (by omega) (by omega) (by omega) (by omega) (by omega) cn (Nat.le_refl cn)
    have m2 := aaF_le (b (31 + 7 * d + 0)) (b (31 + 7 * d + 1)) (b (31 + 7 * d + 2)) (a (34 + 7 * d)) lt ((lw 1).toInt64 * 10) (nI (10 - c0)) (nI (10 - c1)) (nI (10 - c2)) cn
    exact Int32.le_trans (nI_le m (by omega)) z
theorem al_top (h4 : R4 a b f a12 a13 a14 a15 b16) {lw : Nat → Int32} (z1 : zB (lw 1) 0 1000000000) (z2 : zB (lw 2) 0 100) : alK lw (fun p => a (p + 24)) (fun p => b (p + 24)) (fun p => f (p + 24)) (nI 10) (nI 10) (nI 10) 4 := by
  intro d hd
  obtain ⟨bx, lt, cn, q1, q2, q3, q4, q5, q6, q7, q8, q9, q10, q11, q12, q13⟩ := h4 d hd
  refine Or.inr ?_
  have hc : (10 : Int64).toInt = 10 := by decide +kernel
  have h0 : (0 : Int64).toInt = 0 := rfl
  unfold zB at z1 z2
  rw [kc_eq q6 q7 q2 q3, n10 10 (Nat.le_refl 10), aa_none _ _ _ (by
    rw [Int64.le_iff_toInt_le, Int64.toInt_mul, hc, Int32.toInt_toInt64, h0, Int.bmod_eq_of_le (by omega) (by omega)]
    omega), Int32.le_iff_toInt_le, nI_toInt (by decide)]
  exact z2.1
theorem dk_lw (h4 : R4 a b f a12 a13 a14 a15 b16) {lw : Nat → Int32} {lim oft : Int32} (e1 : lw 1 = lim) (e2 : lw 2 = oft) {t : Nat → Int32} (t0 : t 0 = nI 0) (t1 : t 1 = nI 0) (t2 : t 2 = nI 0) : ∀ n m m', n ≤ 4 → dkF lw (fun p => a (p + 24)) (fun p => b (p + 24)) (fun p => f (p + 24)) n m → lwF b16 t a14 a15 lim oft n m' → m = m'
  | 0, m, m', _, h1, h2 => by
    have k1 : m = 0 := h1
    have k2 : m' = 0 := h2
    omega
  | n + 1, m, m', hn, h1, h2 => by
    obtain ⟨p, p1, p2⟩ := h1
    obtain ⟨q, q1, q2⟩ := h2
    have e := dk_lw h4 e1 e2 t0 t1 t2 n p q (by omega) p1 q1
    have k := kc_iff h4 e1 e2 (show n < 4 by omega) t0 t1 t2
    have key : f (4 + 7 * n + 24) 4 = a14 n := by
      obtain ⟨bx, lt, cn, r1, r2, r3, r4, r5, r6, r7, r8, r9, r10, r11, r12, r13⟩ := h4 n (by omega)
      rw [show 4 + 7 * n + 24 = 28 + 7 * n by omega]
      exact r11
    have p2 : (¬ a14 n = 0 ∧ okD b16 t a14 a15 lim oft n ∧ m = p + 1) ∨ ((a14 n = 0 ∨ ¬ okD b16 t a14 a15 lim oft n) ∧ m = p) := by
      rcases p2 with ⟨z1, z2, z3⟩ | ⟨z1 | z1, z3⟩
      · exact Or.inl ⟨fun z => z1 (key.trans z), k.mp z2, z3⟩
      · exact Or.inr ⟨Or.inl (key.symm.trans z1), z3⟩
      · exact Or.inr ⟨Or.inr (fun z => z1 (k.mpr z)), z3⟩
    rcases p2 with ⟨z1, z2, z3⟩ | ⟨z1, z3⟩
    · rcases q2 with ⟨y1, y2, y3⟩ | ⟨y1, y3⟩
      · omega
      · exact absurd y1 (fun y => y.elim z1 (fun y => y z2))
    · rcases q2 with ⟨y1, y2, y3⟩ | ⟨y1, y3⟩
      · exact absurd z1 (fun z => z.elim y1 (fun z => z y2))
      · omega
end RO
section KT
variable {N : Nat} {a f a' : Nat → Nat → Int32} {b g b' : Nat → Nat → Int64} {c' : Nat → Int32}
theorem k_door (hR : Rel N a b f g a' b' c') (x y : Int32) : ∃ P5 P6, (∀ l, ZC l yX5_door cX5_door 3 (some .int) 1 [.ref 0, .int x, .int y] (WB a b f g) P5) ∧ (∀ l, ZC l yX6_door cX6_door 4 (some .int) 2 [.ref 0, .int x, .int y] (WM a' b' c') P6) ∧ ∀ r r' w w', P5 r w → P6 r' w' → StI (N + 1) r r' w w' := by
  refine ⟨_, _, c_X5_door a b f g x y, c_X6_door a' b' c' x y, ?_⟩
  intro r r' w w' h5 h6
  rcases h5 with ⟨n5, r5, w5⟩ | ⟨d, h, s1, s2, s3, s4, r5, w5⟩
  · rcases h6 with ⟨n6, r6, w6⟩ | ⟨d, h, s1, s2, s3, s4, r6, w6⟩
    · exact sti hR w5 w6 r5 r6 rfl
    · exact absurd ⟨⟨d, s1, s3⟩, ⟨h, s2, s4⟩⟩ n5
  · rcases h6 with ⟨n6, r6, w6⟩ | ⟨d', h', t1, t2, t3, t4, r6, w6⟩
    · exact absurd ⟨⟨d, s1, s3⟩, ⟨h, s2, s4⟩⟩ n6
    · have e1 := nI_ij (by omega) (by omega) (s3.symm.trans t3)
      have e2 := nI_ij (by omega) (by omega) (s4.symm.trans t4)
      subst e1
      subst e2
      obtain ⟨hR1, hR2, ⟨tm, u1, u2, u3, u4⟩, hR4, hR5⟩ := hR
      refine ⟨a, b, va_up f (28 + 7 * d) (va_up (va_up (f (28 + 7 * d)) 0 (nI h)) 1 (nI 0)), g, va_up (va_up a' 12 (upd (a' 12) d (nI h))) 15 (upd (a' 15) d (nI 0)), b', c', f (28 + 7 * d) 1, w5, w6, ⟨hR1, R2_fr hR2 (fun _ _ _ => rfl) (fun p h1 h2 => va_up_ne _ _ (by omega)), ⟨tm, by omega, by rw [va_up_ne _ _ (by omega)]; exact u2, u3, R3_fr u4 (fun _ _ _ => rfl) (fun _ _ _ => rfl) (fun p h1 h2 => va_up_ne _ _ (by omega)) (fun _ _ _ => rfl)⟩, fun d' hd' => ?_, R5_fr hR5 rfl (by rw [va_up_ne _ _ (by omega)]) (by rw [va_up_ne _ _ (by omega)]) rfl rfl⟩, r5, ?_⟩
      · obtain ⟨bx, lt, cn, q1, q2, q3, q4, q5, q6, q7, q8, q9, q10, q11, q12, q13⟩ := hR4 d' hd'
        by_cases e : d' = d
        · subst e
          refine ⟨h, lt, 0, s2, q2, by omega, ?_, ?_, ?_, ?_, ?_, ?_, q10, ?_, q12, fun j hj => absurd hj (Nat.not_lt_zero j)⟩
          · rw [va_up_self]
            rfl
          · show upd (a' 12) d' (nI h) d' = nI h
            unfold upd
            rw [if_pos rfl]
          · rw [va_up_self]
            exact q6
          · rw [va_up_self]
            rfl
          · show upd (a' 15) d' (nI 0) d' = nI 0
            unfold upd
            rw [if_pos rfl]
          · rw [va_up_self]
            exact q9
          · rw [va_up_self]
            exact q11
        · refine ⟨bx, lt, cn, q1, q2, q3, ?_, ?_, ?_, ?_, ?_, ?_, q10, ?_, q12, q13⟩
          · rw [va_up_ne _ _ (by omega)]
            exact q4
          · show upd (a' 12) d (nI h) d' = nI bx
            unfold upd
            rw [if_neg e]
            exact q5
          · rw [va_up_ne _ _ (by omega)]
            exact q6
          · rw [va_up_ne _ _ (by omega)]
            exact q7
          · show upd (a' 15) d (nI 0) d' = nI cn
            unfold upd
            rw [if_neg e]
            exact q8
          · rw [va_up_ne _ _ (by omega)]
            exact q9
          · rw [va_up_ne _ _ (by omega)]
            exact q11
      · obtain ⟨bx, lt, cn, q1, q2, q3, q4, q5, q6, q7, q8, q9, q10, q11, q12, q13⟩ := hR4 d s1
        rw [r6, q7, q8]
theorem k_lose (hR : Rel N a b f g a' b' c') (x y : Int32) (hy : y = 0 ∨ y = 1) : ∃ P5 P6, (∀ l, ZC l yX5_lose cX5_lose 4 (some .int) 1 [.ref 0, .int x, .int y] (WB a b f g) P5) ∧ (∀ l, ZC l yX6_lose cX6_lose 4 (some .int) 2 [.ref 0, .int x, .int y] (WM a' b' c') P6) ∧ ∀ r r' w w', P5 r w → P6 r' w' → StI (N + 1) r r' w w' := by
  refine ⟨_, _, c_X5_lose a b f g x y hy, c_X6_lose a' b' c' x y hy, ?_⟩
  intro r r' w w' h5 h6
  rcases h5 with ⟨n5, r5, w5⟩ | ⟨d, s1, s3, r5, w5⟩
  · rcases h6 with ⟨n6, r6, w6⟩ | ⟨d, s1, s3, r6, w6⟩
    · exact sti hR w5 w6 r5 r6 rfl
    · exact absurd ⟨d, s1, s3⟩ n5
  · rcases h6 with ⟨n6, r6, w6⟩ | ⟨d', t1, t3, r6, w6⟩
    · exact absurd ⟨d, s1, s3⟩ n6
    · have e1 := nI_ij (by omega) (by omega) (s3.symm.trans t3)
      subst e1
      obtain ⟨hR1, hR2, ⟨tm, u1, u2, u3, u4⟩, hR4, hR5⟩ := hR
      refine ⟨a, b, va_up f (28 + 7 * d) (va_up (f (28 + 7 * d)) 3 y), g, va_up a' 13 (upd (a' 13) d y), b', c', _, w5, w6, ⟨hR1, R2_fr hR2 (fun _ _ _ => rfl) (fun p h1 h2 => va_up_ne _ _ (by omega)), ⟨tm, by omega, by rw [va_up_ne _ _ (by omega)]; exact u2, u3, R3_fr u4 (fun _ _ _ => rfl) (fun _ _ _ => rfl) (fun p h1 h2 => va_up_ne _ _ (by omega)) (fun _ _ _ => rfl)⟩, fun d' hd' => ?_, R5_fr hR5 rfl (by rw [va_up_ne _ _ (by omega)]) (by rw [va_up_ne _ _ (by omega)]) rfl rfl⟩, r5, ?_⟩
      · obtain ⟨bx, lt, cn, q1, q2, q3, q4, q5, q6, q7, q8, q9, q10, q11, q12, q13⟩ := hR4 d' hd'
        show ∃ bx lt cn, bx < 9 ∧ lt < 100 ∧ cn ≤ 100 ∧ va_up f (28 + 7 * d) (va_up (f (28 + 7 * d)) 3 y) (28 + 7 * d') 0 = nI bx ∧ a' 12 d' = nI bx ∧ va_up f (28 + 7 * d) (va_up (f (28 + 7 * d)) 3 y) (28 + 7 * d') 2 = nI lt ∧ va_up f (28 + 7 * d) (va_up (f (28 + 7 * d)) 3 y) (28 + 7 * d') 1 = nI cn ∧ a' 15 d' = nI cn ∧ va_up f (28 + 7 * d) (va_up (f (28 + 7 * d)) 3 y) (28 + 7 * d') 3 = upd (a' 13) d y d' ∧ (upd (a' 13) d y d' = 0 ∨ upd (a' 13) d y d' = 1) ∧ va_up f (28 + 7 * d) (va_up (f (28 + 7 * d)) 3 y) (28 + 7 * d') 4 = a' 14 d' ∧ (a' 14 d' = 0 ∨ a' 14 d' = 1) ∧ dRel (b' 16) (b (29 + 7 * d')) (fun i => b (31 + 7 * d' + i)) (a (34 + 7 * d')) d' lt cn
        unfold upd
        by_cases e : d' = d
        · subst e
          rw [va_up_self, if_pos rfl]
          exact ⟨bx, lt, cn, q1, q2, q3, q4, q5, q6, q7, q8, rfl, hy, q11, q12, q13⟩
        · rw [va_up_ne f _ (show 28 + 7 * d' ≠ 28 + 7 * d by omega), if_neg e]
          exact ⟨bx, lt, cn, q1, q2, q3, q4, q5, q6, q7, q8, q9, q10, q11, q12, q13⟩
      · obtain ⟨bx, lt, cn, q1, q2, q3, q4, q5, q6, q7, q8, q9, q10, q11, q12, q13⟩ := hR4 d s1
        rw [r6, q9]
theorem watF_congr {u v : Nat → Int32} : ∀ n, (∀ k, k < n → u k = v k) → watF u n = watF v n
  | 0, _ => rfl
  | n + 1, h => by rw [watF_s, watF_s, watF_congr n (fun k hk => h k (by omega)), h n (by omega)]
theorem k_watch (hR : Rel N a b f g a' b' c') (x y : Int32) (hy : y = 0 ∨ y = 1) : ∃ P5 P6, (∀ l, ZC l yX5_watch cX5_watch 5 (some .int) 1 [.ref 0, .int x, .int y] (WB a b f g) P5) ∧ (∀ l, ZC l yX6_watch cX6_watch 5 (some .int) 2 [.ref 0, .int x, .int y] (WM a' b' c') P6) ∧ ∀ r r' w w', P5 r w → P6 r' w' → StI (N + 1) r r' w w' := by
  refine ⟨_, _, c_X5_watch a b f g x y hy, c_X6_watch a' b' c' x y hy, ?_⟩
  intro r r' w w' h5 h6
  rcases h5 with ⟨n5, r5, w5⟩ | ⟨d, s1, s3, r5, w5⟩
  · rcases h6 with ⟨n6, r6, w6⟩ | ⟨d, s1, s3, r6, w6⟩
    · exact sti hR w5 w6 r5 r6 rfl
    · exact absurd ⟨d, s1, s3⟩ n5
  · rcases h6 with ⟨n6, r6, w6⟩ | ⟨d', t1, t3, r6, w6⟩
    · exact absurd ⟨d, s1, s3⟩ n6
    · have e1 := nI_ij (by omega) (by omega) (s3.symm.trans t3)
      subst e1
      obtain ⟨hR1, hR2, ⟨tm, u1, u2, u3, u4⟩, hR4, hR5⟩ := hR
      have hN4 : R4 a b (va_up f (28 + 7 * d) (va_up (f (28 + 7 * d)) 4 y)) (a' 12) (a' 13) (upd (a' 14) d y) (a' 15) (b' 16) := by
        intro d' hd'
        obtain ⟨bx, lt, cn, q1, q2, q3, q4, q5, q6, q7, q8, q9, q10, q11, q12, q13⟩ := hR4 d' hd'
        unfold upd
        by_cases e : d' = d
        · subst e
          rw [va_up_self, if_pos rfl]
          exact ⟨bx, lt, cn, q1, q2, q3, q4, q5, q6, q7, q8, q9, q10, rfl, hy, q13⟩
        · rw [va_up_ne f _ (show 28 + 7 * d' ≠ 28 + 7 * d by omega), if_neg e]
          exact ⟨bx, lt, cn, q1, q2, q3, q4, q5, q6, q7, q8, q9, q10, q11, q12, q13⟩
      refine ⟨a, b, va_up f (28 + 7 * d) (va_up (f (28 + 7 * d)) 4 y), g, va_up a' 14 (upd (a' 14) d y), b', c', _, w5, w6, ⟨hR1, R2_fr hR2 (fun _ _ _ => rfl) (fun p h1 h2 => va_up_ne _ _ (by omega)), ⟨tm, by omega, by rw [va_up_ne _ _ (by omega)]; exact u2, u3, R3_fr u4 (fun _ _ _ => rfl) (fun _ _ _ => rfl) (fun p h1 h2 => va_up_ne _ _ (by omega)) (fun _ _ _ => rfl)⟩, hN4, R5_fr hR5 rfl (by rw [va_up_ne _ _ (by omega)]) (by rw [va_up_ne _ _ (by omega)]) rfl rfl⟩, r5, ?_⟩
      rw [r6]
      unfold watC
      rw [watF_congr (u := upd (a' 14) d y) (v := fun e => va_up f (28 + 7 * d) (va_up (f (28 + 7 * d)) 4 y) (28 + 7 * e) 4) 4 (fun k hk => by
        obtain ⟨bx, lt, cn, q1, q2, q3, q4, q5, q6, q7, q8, q9, q10, q11, q12, q13⟩ := hN4 k hk
        exact q11.symm)]
theorem k_hours (hN : N < 512) (hR : Rel N a b f g a' b' c') (x y : Int32) : ∃ P5 P6, (∀ l, ZC l yX5_hours cX5_hours 4 (some .int) 3 [.ref 0, .int x, .int y] (WB a b f g) P5) ∧ (∀ l, ZC l yX6_hours cX6_hours 5 (some .int) 5 [.ref 0, .int x, .int y] (WM a' b' c') P6) ∧ ∀ r r' w w', P5 r w → P6 r' w' → StI (N + 1) r r' w w' := by
  obtain ⟨tm, u1, u2, u3, u4⟩ := hR.2.2.1
  have hR4 := hR.2.2.2.1
  refine ⟨_, _, c_X5_hours a b f g (R4_lw hR4) (R3_hm u4) tm (by omega) u2 x y, c_X6_hours a' b' c' (fun k hk => (hR.1.1 k hk).2) hR.1.2.2.2 tm (by omega) u3 (R4_M hR4) (R3_7 u4) (R4_12 hR4) x y, ?_⟩
  intro r r' w w' h5 h6
  rcases h5 with ⟨n5, r5, w5⟩ | ⟨nh, a1, b1, f1, g1, s1, s2, s3, s4, s5, r5, w5⟩
  · rcases h6 with ⟨n6, r6, w6⟩ | ⟨nh, h1, a2, b2, c2, t1, t2, t3, t4, t5, t6, r6, w6⟩
    · exact sti hR w5 w6 r5 r6 rfl
    · exact absurd ⟨⟨by rw [t3, nI_toInt (by omega)]; omega, by rw [t3, nI_toInt (by omega)]; omega⟩, t4⟩ n5
  · rcases h6 with ⟨n6, r6, w6⟩ | ⟨nh', h1, a2, b2, c2, t1, t2, t3, t4, t5, t6, r6, w6⟩
    · exact absurd ⟨⟨by rw [s3, nI_toInt (by omega)]; omega, by rw [s3, nI_toInt (by omega)]; omega⟩, s4⟩ n6
    · have e1 := nI_ij (by omega) (by omega) (s3.symm.trans t3)
      subst e1
      obtain ⟨hR1, hR2, -, -, hR5⟩ := hR
      obtain ⟨hs, ho⟩ := R1_net hR1
      obtain ⟨v1, v2, v3, v4, v5, v6, v7⟩ := t6
      have hst : ∀ w, w < 24 → stillF (a' 1) h1 w = b 4 w := fun w hw => by
        have i1 := zFROM_le w
        have i2 := zTO_le w
        rw [hR1.2.2.1 w hw]
        unfold stillF
        rw [t5 _ (by omega), t5 _ (by omega)]
      obtain ⟨j3, j4, j5, ⟨j6, j7⟩, j8, j9⟩ := hours_ok (st := stillF (a' 1) h1) s4 u4 hR4 u2 hst hs ho nh a1 b1 f1 g1 (by omega) s5
      have e9 : b2 9 = (hrsQ (stillF (a' 1) h1) (a' 7) (a' 8) (a' 12) (a' 13) y tm nh (b' 9, b' 10, b' 16, a' 15)).1 := congrArg (fun q => q.1) v1
      have e10 : b2 10 = (hrsQ (stillF (a' 1) h1) (a' 7) (a' 8) (a' 12) (a' 13) y tm nh (b' 9, b' 10, b' 16, a' 15)).2.1 := congrArg (fun q => q.2.1) v1
      have e16 : b2 16 = (hrsQ (stillF (a' 1) h1) (a' 7) (a' 8) (a' 12) (a' 13) y tm nh (b' 9, b' 10, b' 16, a' 15)).2.2.1 := congrArg (fun q => q.2.2.1) v1
      have e15 : a2 15 = (hrsQ (stillF (a' 1) h1) (a' 7) (a' 8) (a' 12) (a' 13) y tm nh (b' 9, b' 10, b' 16, a' 15)).2.2.2 := congrArg (fun q => q.2.2.2) v1
      rw [← e9, ← e10] at j3
      rw [← e16, ← e15] at j4
      refine ⟨a1, b1, f1, g1, a2, b2, c2, f1 0 0, w5, w6, ⟨⟨?_, ?_, ?_, ?_⟩, ?_, ⟨tm + nh, by omega, j9, v5, ?_⟩, ?_, ?_⟩, r5, by rw [r6, j9]⟩
      · rw [j5 2 (by omega), v3 1 (by decide)]
        exact hR1.1
      · rw [j6, v3 1 (by decide)]
        exact hR1.2.1
      · rw [j7, v3 1 (by decide)]
        exact hR1.2.2.1
      · rw [v4]
        show h1 9 = 0
        rw [t5 9 (by omega)]
        rfl
      · rw [v3 4 (by decide), v3 5 (by decide), v3 6 (by decide)]
        exact R2_fr hR2 (fun p h1 h2 => j5 p (by omega)) (fun p h1 h2 => j8 p (by omega) (by omega))
      · rw [v3 7 (by decide), v3 8 (by decide)]
        exact j3
      · rw [v3 12 (by decide), v3 13 (by decide), v3 14 (by decide)]
        exact j4
      · rw [v3 17 (by decide)]
        exact R5_fr hR5 (j5 57 (by omega)) (by rw [j8 56 (by omega) (by omega)]) (by rw [j8 56 (by omega) (by omega)]) v6 v7
theorem k_grains (hR : Rel N a b f g a' b' c') (x y : Int32) : ∃ P5 P6, (∀ l, ZC l yX5_grains cX5_grains 3 (some .long) 1 [.ref 0, .int x, .int y] (WB a b f g) P5) ∧ (∀ l, ZC l yX6_grains cX6_grains 3 (some .long) 1 [.ref 0, .int x, .int y] (WM a' b' c') P6) ∧ ∀ r r' w w', P5 r w → P6 r' w' → StL (N + 1) r r' w w' := by
  refine ⟨_, _, c_X5_grains a b f g x y, c_X6_grains a' b' c' x y, ?_⟩
  intro r r' w w' h5 h6
  obtain ⟨w5, h5⟩ := h5
  obtain ⟨w6, h6⟩ := h6
  rcases h5 with ⟨n5, r5⟩ | ⟨d, h, s1, s2, s3, s4, r5⟩
  · rcases h6 with ⟨n6, r6⟩ | ⟨d, h, s1, s2, s3, s4, r6⟩
    · exact stl hR w5 w6 r5 r6 rfl
    · exact absurd ⟨⟨d, s1, s3⟩, ⟨h, s2, s4⟩⟩ n5
  · rcases h6 with ⟨n6, r6⟩ | ⟨d', h', t1, t2, t3, t4, r6⟩
    · exact absurd ⟨⟨d, s1, s3⟩, ⟨h, s2, s4⟩⟩ n6
    · have e1 := nI_ij (by omega) (by omega) (s3.symm.trans t3)
      have e2 := nI_ij (by omega) (by omega) (s4.symm.trans t4)
      subst e1
      subst e2
      obtain ⟨tm, u1, u2, u3, u4⟩ := hR.2.2.1
      exact stl hR w5 w6 r5 r6 ((u4 d s1).2.2.1.1 h s2)
theorem k_total (hR : Rel N a b f g a' b' c') (x y : Int32) : ∃ P5 P6, (∀ l, ZC l yX5_total cX5_total 4 (some .long) 1 [.ref 0, .int x, .int y] (WB a b f g) P5) ∧ (∀ l, ZC l yX6_total cX6_total 6 (some .long) 1 [.ref 0, .int x, .int y] (WM a' b' c') P6) ∧ ∀ r r' w w', P5 r w → P6 r' w' → StL (N + 1) r r' w w' := by
  refine ⟨_, _, c_X5_total a b f g x y, c_X6_total a' b' c' x y, ?_⟩
  intro r r' w w' h5 h6
  obtain ⟨w5, h5⟩ := h5
  obtain ⟨w6, h6⟩ := h6
  rcases h5 with ⟨n5, r5⟩ | ⟨d, h, s1, s2, s3, s4, r5⟩
  · rcases h6 with ⟨n6, r6⟩ | ⟨d, h, s1, s2, s3, s4, r6⟩
    · exact stl hR w5 w6 r5 r6 rfl
    · exact absurd ⟨⟨d, s1, s3⟩, ⟨h, s2, s4⟩⟩ n5
  · rcases h6 with ⟨n6, r6⟩ | ⟨d', h', t1, t2, t3, t4, r6⟩
    · exact absurd ⟨⟨d, s1, s3⟩, ⟨h, s2, s4⟩⟩ n6
    · have e1 := nI_ij (by omega) (by omega) (s3.symm.trans t3)
      have e2 := nI_ij (by omega) (by omega) (s4.symm.trans t4)
      subst e1
      subst e2
      obtain ⟨tm, u1, u2, u3, u4⟩ := hR.2.2.1
      obtain ⟨z1, z2, z3⟩ := (u4 d s1).2.2.1
      refine stl hR w5 w6 r5 r6 ?_
      unfold totC
      by_cases q1 : h < 3
      · rw [if_pos q1, if_pos (by omega)]
        exact z2 h q1
      · rw [if_neg q1]
        by_cases q2 : h = 3
        · subst q2
          rw [if_pos rfl, if_pos (by omega)]
          exact z3
        · rw [if_neg q2, if_neg (by omega)]
          exact accA_congr2 9 z1
theorem k_hour (hR : Rel N a b f g a' b' c') (x y z : Int32) : ∃ P5 P6, (∀ l, ZC l yX5_hour cX5_hour 6 (some .long) 1 [.ref 0, .int x, .int y, .int z] (WB a b f g) P5) ∧ (∀ l, ZC l yX6_hour cX6_hour 7 (some .long) 2 [.ref 0, .int x, .int y, .int z] (WM a' b' c') P6) ∧ ∀ r r' w w', P5 r w → P6 r' w' → StL (N + 1) r r' w w' := by
  have hR4 := hR.2.2.2.1
  refine ⟨_, _, c_X5_hour a b f g (R4_lg hR4) x y z, c_X6_hour a' b' c' (R4_M hR4) x y z, ?_⟩
  intro r r' w w' h5 h6
  obtain ⟨w5, h5⟩ := h5
  obtain ⟨w6, h6⟩ := h6
  rcases h5 with ⟨n5, r5⟩ | ⟨d, lt, cn, s1, s2, s3, s4, s5, s6, h5⟩
  · rcases h6 with ⟨n6, r6⟩ | ⟨d, mn, t1, t2, t3, t4, h6⟩
    · exact stl hR w5 w6 r5 r6 rfl
    · exact absurd ⟨d, t1, t3⟩ n5
  · rcases h6 with ⟨n6, r6⟩ | ⟨d', mn, t1, t2, t3, t4, h6⟩
    · exact absurd ⟨d, s1, s4⟩ n6
    · have e1 := nI_ij (by omega) (by omega) (s4.symm.trans t3)
      subst e1
      obtain ⟨e2, hD⟩ := R4_at hR4 s1 s2 s3 t2 s5 s6 t4
      subst e2
      rcases h5 with ⟨n5, r5⟩ | ⟨j, k, j1, j2, j3, j4, r5⟩
      · rcases h6 with ⟨n6, r6⟩ | ⟨i, k, i1, i2, i3, i4, r6⟩
        · exact stl hR w5 w6 r5 r6 rfl
        · exact absurd ⟨⟨i, i1, i3⟩, ⟨k, i2, i4⟩⟩ n5
      · rcases h6 with ⟨n6, r6⟩ | ⟨i, k', i1, i2, i3, i4, r6⟩
        · exact absurd ⟨⟨j, j1, j3⟩, ⟨k, j2, j4⟩⟩ n6
        · have e3 := nI_ij (by omega) (by omega) (j3.symm.trans i3)
          have e4 := nI_ij (by omega) (by omega) (j4.symm.trans i4)
          subst e3
          subst e4
          refine stl hR w5 w6 r5 r6 ?_
          by_cases hg : a (34 + 7 * d) (slF lt j) = 0
          · rw [if_pos hg, if_pos ((dr_iff hD j1).mpr hg), (dr_nu hD j1 hg).1]
            by_cases h3 : k = 3
            · rw [if_pos h3, if_pos h3]
            · rw [if_neg h3, if_neg h3]
              rcases (hD j j1).1 with ⟨z1, -⟩ | ⟨-, z2⟩
              · exact absurd hg z1
              · exact ((z2 k (by omega)).1).symm
          · rw [if_neg hg, if_neg (fun q => hg ((dr_iff hD j1).mp q))]
theorem k_kept (hR : Rel N a b f g a' b' c') (x y : Int32) : ∃ P5 P6, (∀ l, ZC l yX5_kept cX5_kept 3 (some .int) 3 [.ref 0, .int x, .int y] (WB a b f g) P5) ∧ (∀ l, ZC l yX6_kept cX6_kept 3 (some .int) 2 [.ref 0, .int x, .int y] (WM a' b' c') P6) ∧ ∀ r r' w w', P5 r w → P6 r' w' → StI (N + 1) r r' w w' := by
  have hR4 := hR.2.2.2.1
  refine ⟨_, _, c_X5_kept a b f g (R4_lg hR4) x y, c_X6_kept a' b' c' (R4_M hR4) x y, ?_⟩
  intro r r' w w' h5 h6
  obtain ⟨w5, h5⟩ := h5
  obtain ⟨w6, h6⟩ := h6
  rcases h5 with ⟨n5, r5⟩ | ⟨d, k, lt, cn, s1, k1, s2, s3, s4, k2, s5, s6, r5⟩
  · rcases h6 with ⟨n6, r6⟩ | ⟨d, k, mn, t1, k1, t2, t3, k2, t4, r6⟩
    · exact sti hR w5 w6 r5 r6 rfl
    · exact absurd ⟨⟨d, t1, t3⟩, ⟨k, k1, k2⟩⟩ n5
  · rcases h6 with ⟨n6, r6⟩ | ⟨d', k', mn, t1, l1, t2, t3, l2, t4, r6⟩
    · exact absurd ⟨⟨d, s1, s4⟩, ⟨k, k1, k2⟩⟩ n6
    · have e1 := nI_ij (by omega) (by omega) (s4.symm.trans t3)
      have e0 := nI_ij (by omega) (by omega) (k2.symm.trans l2)
      subst e1
      subst e0
      obtain ⟨e2, hD⟩ := R4_at hR4 s1 s2 s3 t2 s5 s6 t4
      subst e2
      exact sti hR w5 w6 r5 r6 (by rw [told_ok hD])
theorem k_mean (hR : Rel N a b f g a' b' c') (x : Int32) : ∃ P5 P6, (∀ l, ZC l yX5_mean cX5_mean 2 (some .long) 4 [.ref 0, .int x] (WB a b f g) P5) ∧ (∀ l, ZC l yX6_mean cX6_mean 8 (some .long) 2 [.ref 0, .int x] (WM a' b' c') P6) ∧ ∀ r r' w w', P5 r w → P6 r' w' → StL (N + 1) r r' w w' := by
  have hR4 := hR.2.2.2.1
  refine ⟨_, _, c_X5_mean a b f g (R4_lg hR4) x, c_X6_mean a' b' c' (R4_M hR4) x, ?_⟩
  intro r r' w w' h5 h6
  obtain ⟨w5, h5⟩ := h5
  obtain ⟨w6, h6⟩ := h6
  rcases h5 with ⟨n5, r5⟩ | ⟨d, lt, cn, s1, s2, s3, s4, s5, s6, r5⟩
  · rcases h6 with ⟨n6, r6⟩ | ⟨d, mn, t1, t2, t3, t4, r6⟩
    · exact stl hR w5 w6 r5 r6 rfl
    · exact absurd ⟨d, t1, t3⟩ n5
  · rcases h6 with ⟨n6, r6⟩ | ⟨d', mn, t1, t2, t3, t4, r6⟩
    · exact absurd ⟨d, s1, s4⟩ n6
    · have e1 := nI_ij (by omega) (by omega) (s4.symm.trans t3)
      subst e1
      obtain ⟨e2, hD⟩ := R4_at hR4 s1 s2 s3 t2 s5 s6 t4
      subst e2
      exact stl hR w5 w6 r5 r6 (by rw [told_ok hD, sum_ok hD])
theorem k_rank (hR : Rel N a b f g a' b' c') (x y : Int32) : ∃ P5 P6, (∀ l, ZC l yX5_rank cX5_rank 3 (some .long) 3 [.ref 0, .int x, .int y] (WB a b f g) P5) ∧ (∀ l, ZC l yX6_rank cX6_rank 10 (some .long) 2 [.ref 0, .int x, .int y] (WM a' b' c') P6) ∧ ∀ r r' w w', P5 r w → P6 r' w' → StL (N + 1) r r' w w' := by
  have hR4 := hR.2.2.2.1
  refine ⟨_, _, c_X5_rank a b f g (R4_lg hR4) x y, c_X6_rank a' b' c' (R4_M hR4) x y, ?_⟩
  intro r r' w w' h5 h6
  obtain ⟨w5, h5⟩ := h5
  obtain ⟨w6, h6⟩ := h6
  rcases h5 with ⟨n5, r5⟩ | ⟨d, lt, cn, s1, s2, s3, s4, s7, s5, s6, h5⟩
  · rcases h6 with ⟨n6, r6⟩ | ⟨d, mn, t1, t2, t3, t5, t4, h6⟩
    · exact stl hR w5 w6 r5 r6 rfl
    · exact absurd ⟨⟨d, t1, t3⟩, Int32.not_lt.mpr t5⟩ n5
  · rcases h6 with ⟨n6, r6⟩ | ⟨d', mn, t1, t2, t3, t5, t4, h6⟩
    · exact absurd ⟨⟨d, s1, s4⟩, Int32.not_lt.mp s7⟩ n6
    · have e1 := nI_ij (by omega) (by omega) (s4.symm.trans t3)
      subst e1
      obtain ⟨e2, hD⟩ := R4_at hR4 s1 s2 s3 t2 s5 s6 t4
      subst e2
      have hy : 1 ≤ y.toInt := by
        rw [Int32.le_iff_toInt_le, nI_toInt (by decide)] at t5
        omega
      have e3 := rank_ok hD s3 hy h5 h6
      rcases h5 with ⟨-, r5⟩ | ⟨i, -, -, r5⟩
      · exact ⟨a, b, f, g, a', b', c', _, w5, w6, Rel_up hR, r5, by rw [← e3, r5]⟩
      · exact ⟨a, b, f, g, a', b', c', _, w5, w6, Rel_up hR, r5, by rw [← e3, r5]⟩
theorem k_rolling (hR : Rel N a b f g a' b' c') (x y : Int32) : ∃ P5 P6, (∀ l, ZC l yX5_rolling cX5_rolling 3 (some .long) 3 [.ref 0, .int x, .int y] (WB a b f g) P5) ∧ (∀ l, ZC l yX6_rolling cX6_rolling 12 (some .long) 2 [.ref 0, .int x, .int y] (WM a' b' c') P6) ∧ ∀ r r' w w', P5 r w → P6 r' w' → StL (N + 1) r r' w w' := by
  have hR4 := hR.2.2.2.1
  refine ⟨_, _, c_X5_rolling a b f g (R4_lg hR4) x y, c_X6_rolling a' b' c' (R4_M hR4) x y, ?_⟩
  intro r r' w w' h5 h6
  obtain ⟨w5, h5⟩ := h5
  obtain ⟨w6, h6⟩ := h6
  rcases h5 with ⟨n5, r5⟩ | ⟨d, lt, cn, wn, s1, s2, s3, k1, k2, s4, k3, s5, s6, r5⟩
  · rcases h6 with ⟨n6, r6⟩ | ⟨d, mn, wn, t1, t2, k1, k2, t3, k3, t4, r6⟩
    · exact stl hR w5 w6 r5 r6 rfl
    · exact absurd ⟨⟨d, t1, t3⟩, ⟨by rw [k3, nI_toInt (by omega)]; omega, by rw [k3, nI_toInt (by omega)]; omega⟩⟩ n5
  · rcases h6 with ⟨n6, r6⟩ | ⟨d', mn, wn', t1, t2, l1, l2, t3, l3, t4, r6⟩
    · exact absurd ⟨⟨d, s1, s4⟩, ⟨by rw [k3, nI_toInt (by omega)]; omega, by rw [k3, nI_toInt (by omega)]; omega⟩⟩ n6
    · have e1 := nI_ij (by omega) (by omega) (s4.symm.trans t3)
      have e0 := nI_ij (by omega) (by omega) (k3.symm.trans l3)
      subst e1
      subst e0
      obtain ⟨e2, hD⟩ := R4_at hR4 s1 s2 s3 t2 s5 s6 t4
      subst e2
      exact stl hR w5 w6 r5 r6 (roll_ok hD k1)
theorem k_law (hR : Rel N a b f g a' b' c') (x y : Int32) : ∃ P5 P6, (∀ l, ZC l yX5_law cX5_law 3 (some .int) 4 [.ref 0, .int x, .int y] (WB a b f g) P5) ∧ (∀ l, ZC l yX6_law cX6_law 5 (some .int) 1 [.ref 0, .int x, .int y] (WM a' b' c') P6) ∧ ∀ r r' w w', P5 r w → P6 r' w' → StI (N + 1) r r' w w' := by
  have hR4 := hR.2.2.2.1
  refine ⟨_, _, c_X5_law a b f g (R4_lg hR4) x y, c_X6_law a' b' c' (R4_M hR4) x y, ?_⟩
  intro r r' w w' h5 h6
  rcases h5 with ⟨n5, r5, w5⟩ | ⟨m, s1, s2, s3, r5, w5⟩
  · rcases h6 with ⟨n6, r6, w6⟩ | ⟨m, s1, s2, s3, r6, w6⟩
    · exact sti hR w5 w6 r5 r6 rfl
    · exact absurd ⟨s1, s2⟩ n5
  · rcases h6 with ⟨n6, r6, w6⟩ | ⟨m', t1, t2, t3, r6, w6⟩
    · exact absurd ⟨s1, s2⟩ n6
    · obtain ⟨hR1, hR2, ⟨tm, u1, u2, u3, u4⟩, -, hR5⟩ := hR
      have hN4 : R4 a b (va_up f 56 (va_up (va_up (f 56) 1 x) 2 y)) (a' 12) (a' 13) (a' 14) (a' 15) (b' 16) := R4_fr hR4 (fun _ _ _ => rfl) (fun _ _ _ => rfl) (fun p h1 h2 => va_up_ne _ _ (by omega))
      rw [va_up_self] at s3
      have e := dk_lw hN4 (lw := va_up (va_up (f 56) 1 x) 2 y) (lim := x) (oft := y) rfl rfl (t := t3F (a' 18) (nI 0) (nI 0) (nI 0)) rfl rfl rfl 4 m m' (Nat.le_refl 4) s3 t3
      subst e
      exact ⟨a, b, va_up f 56 (va_up (va_up (f 56) 1 x) 2 y), g, va_up a' 18 (t3F (a' 18) (nI 0) (nI 0) (nI 0)), b', va_up (va_up c' 1 x) 2 y, nI m, w5, w6, ⟨hR1, R2_fr hR2 (fun _ _ _ => rfl) (fun p h1 h2 => va_up_ne _ _ (by omega)), ⟨tm, by omega, u2, u3, R3_fr u4 (fun _ _ _ => rfl) (fun _ _ _ => rfl) (fun p h1 h2 => va_up_ne _ _ (by omega)) (fun _ _ _ => rfl)⟩, hN4, ⟨rfl, s1, rfl, s2, hR5.2.2.2.2⟩⟩, r5, r6⟩
theorem k_price (hR : Rel N a b f g a' b' c') (x y : Int32) : ∃ P5 P6, (∀ l, ZC l yX5_price cX5_price 4 (some .int) 1 [.ref 0, .int x, .int y] (WB a b f g) P5) ∧ (∀ l, ZC l yX6_price cX6_price 4 (some .int) 1 [.ref 0, .int x, .int y] (WM a' b' c') P6) ∧ ∀ r r' w w', P5 r w → P6 r' w' → StI (N + 1) r r' w w' := by
  refine ⟨_, _, c_X5_price a b f g x y, c_X6_price a' b' c' x y, ?_⟩
  intro r r' w w' h5 h6
  rcases h5 with ⟨n5, r5, w5⟩ | ⟨d, s1, s3, s2, r5, w5⟩
  · rcases h6 with ⟨n6, r6, w6⟩ | ⟨d, s1, s3, s2, r6, w6⟩
    · exact sti hR w5 w6 r5 r6 rfl
    · exact absurd ⟨⟨d, s1, s3⟩, s2⟩ n5
  · rcases h6 with ⟨n6, r6, w6⟩ | ⟨d', t1, t3, t2, r6, w6⟩
    · exact absurd ⟨⟨d, s1, s3⟩, s2⟩ n6
    · have e1 := nI_ij (by omega) (by omega) (s3.symm.trans t3)
      subst e1
      obtain ⟨hR1, hR2, ⟨tm, u1, u2, u3, u4⟩, hR4, hR5⟩ := hR
      obtain ⟨p1, p2, p3, p4, p5⟩ := hR5
      refine ⟨va_up a 57 (upd (a 57) d y), b, f, g, va_up a' 17 (upd (a' 17) d y), b', c', a 57 d, w5, w6, ⟨hR1, R2_fr hR2 (fun p h1 h2 => va_up_ne _ _ (by omega)) (fun _ _ _ => rfl), ⟨tm, by omega, u2, u3, R3_fr u4 (fun p h1 h2 => va_up_ne _ _ (by omega)) (fun _ _ _ => rfl) (fun _ _ _ => rfl) (fun _ _ _ => rfl)⟩, R4_fr hR4 (fun p h1 h2 => va_up_ne _ _ (by omega)) (fun _ _ _ => rfl) (fun _ _ _ => rfl), ⟨p1, p2, p3, p4, fun q hq => ?_⟩⟩, r5, by rw [r6, (p5 d s1).1]⟩
      show upd (a 57) d y q = upd (a' 17) d y q ∧ zB (upd (a' 17) d y q) 0 1000
      unfold upd
      by_cases e : q = d
      · rw [if_pos e, if_pos e]
        exact ⟨rfl, s2⟩
      · rw [if_neg e, if_neg e]
        exact p5 q hq
theorem k_cheapest (hR : Rel N a b f g a' b' c') (x : Int32) : ∃ P5 P6, (∀ l, ZC l yX5_cheapest cX5_cheapest 2 (some .int) 5 [.ref 0, .int x] (WB a b f g) P5) ∧ (∀ l, ZC l yX6_cheapest cX6_cheapest 6 (some .int) 1 [.ref 0, .int x] (WM a' b' c') P6) ∧ ∀ r r' w w', P5 r w → P6 r' w' → StI (N + 1) r r' w w' := by
  obtain ⟨hR1, hR2, ⟨tm, u1, u2, u3, u4⟩, hR4, hR5⟩ := hR
  obtain ⟨p1, p2, p3, p4, p5⟩ := hR5
  have hpr : ∀ q, q < 3 → zB (a 57 q) 0 1000 := fun q hq => by
    rw [(p5 q hq).1]
    exact (p5 q hq).2
  refine ⟨_, _, c_X5_cheapest a b f g (R4_lg hR4) hpr (fun c0 c1 c2 h0 h1 h2 h => al_less hR4 (Nat.le_refl _) (by omega) (Nat.le_refl _) h0 (by omega) h2 h) (fun c0 c1 c2 h0 h1 h2 h => al_less hR4 (Nat.le_refl _) (Nat.le_refl _) (by omega) h0 h1 (by omega) h) x, c_X6_cheapest a' b' c' (R4_M hR4) (fun q hq => (p5 q hq).2) x, ?_⟩
  intro r r' w w' h5 h6
  rcases h5 with ⟨n5, r5, w5⟩ | ⟨wh, lc, ct, s1, s2, s3, r5, w5⟩
  · rcases h6 with ⟨n6, r6, w6⟩ | ⟨wh, t, bs, s1, s2, s3, r6, w6⟩
    · exact sti ⟨hR1, hR2, ⟨tm, u1, u2, u3, u4⟩, hR4, p1, p2, p3, p4, p5⟩ w5 w6 r5 r6 rfl
    · exact absurd ⟨wh, s1, s2⟩ n5
  · rcases h6 with ⟨n6, r6, w6⟩ | ⟨wh', t, bs, t1, t2, t3, r6, w6⟩
    · exact absurd ⟨wh, s1, s2⟩ n6
    · have e1 := nI_ij (by omega) (by omega) (s2.symm.trans t2)
      subst e1
      have e := best_ok hpr (fun q hq => (p5 q hq).1) (fun k hk => al_iff hR4 p1 p3 (t := tC k) rfl rfl rfl) (al_top hR4 (by rw [p1]; exact p2) (by rw [p3]; exact p4)) s3 t3 s1
      exact ⟨va_up a 58 ct, b, va_up f 56 (va_up (f 56) 0 lc), g, va_up (va_up a' 18 t) 19 bs, b', c', _, w5, w6, ⟨hR1, R2_fr hR2 (fun p h1 h2 => va_up_ne _ _ (by omega)) (fun p h1 h2 => va_up_ne _ _ (by omega)), ⟨tm, by omega, u2, u3, R3_fr u4 (fun p h1 h2 => va_up_ne _ _ (by omega)) (fun _ _ _ => rfl) (fun p h1 h2 => va_up_ne _ _ (by omega)) (fun _ _ _ => rfl)⟩, R4_fr hR4 (fun p h1 h2 => va_up_ne _ _ (by omega)) (fun _ _ _ => rfl) (fun p h1 h2 => va_up_ne _ _ (by omega)), ⟨p1, p2, p3, p4, p5⟩⟩, r5, by rw [r6, ← e]⟩
end KT
