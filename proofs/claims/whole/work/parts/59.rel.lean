/-! ===== both sides' states ===== -/
def R1 (a : Nat → Nat → Int32) (b : Nat → Nat → Int64) (a' : Nat → Nat → Int32) (b' : Nat → Nat → Int64) : Prop := (∀ q, q < 24 → a 2 q = a' 1 q ∧ zB (a' 1 q) (-100) 100) ∧ (∀ q, q < 10 → b 3 q = HT (a' 1) q) ∧ (∀ q, q < 24 → b 4 q = stillF (a' 1) (HT (a' 1)) q) ∧ b' 3 9 = 0
def R2 (a f : Nat → Nat → Int32) (a4 a5 a6 : Nat → Int32) : Prop := ∀ s, s < 4 → (∃ n, n ≤ 24 ∧ f (6 + 2 * s) 2 = nI n ∧ a5 s = nI n) ∧ ((f (6 + 2 * s) 0 = 0 ∧ a4 s = -1) ∨ (f (6 + 2 * s) 0 = 1 ∧ ∃ l, l < 2 ∧ f (6 + 2 * s) 1 = nI l ∧ a4 s = nI l)) ∧ ∀ q, q < 24 → a (7 + 2 * s) q = a6 (24 * s + q)
def R3 (a : Nat → Nat → Int32) (b : Nat → Nat → Int64) (f : Nat → Nat → Int32) (g : Nat → Nat → Int64) (a7 a8 : Nat → Int32) (b9 b10 : Nat → Int64) (T : Int) : Prop := ∀ s, s < 3 → (∃ hm, hm < 9 ∧ f (15 + 4 * s) 0 = nI hm ∧ a7 s = nI hm) ∧ (∀ q, q < 24 → a (16 + 4 * s) q = a8 (24 * s + q) ∧ zB (a8 (24 * s + q)) 0 1000000) ∧ SR s (b (17 + 4 * s)) (g (15 + 4 * s)) b9 b10 ∧ srcOK (b (17 + 4 * s)) T
def R4 (a : Nat → Nat → Int32) (b : Nat → Nat → Int64) (f : Nat → Nat → Int32) (a12 a13 a14 a15 : Nat → Int32) (b16 : Nat → Int64) : Prop := ∀ d, d < 4 → ∃ bx lt cn, bx < 9 ∧ lt < 100 ∧ cn ≤ 100 ∧ f (28 + 7 * d) 0 = nI bx ∧ a12 d = nI bx ∧ f (28 + 7 * d) 2 = nI lt ∧ f (28 + 7 * d) 1 = nI cn ∧ a15 d = nI cn ∧ f (28 + 7 * d) 3 = a13 d ∧ (a13 d = 0 ∨ a13 d = 1) ∧ f (28 + 7 * d) 4 = a14 d ∧ (a14 d = 0 ∨ a14 d = 1) ∧ dRel b16 (b (29 + 7 * d)) (fun i => b (31 + 7 * d + i)) (a (34 + 7 * d)) d lt cn
def R5 (a f : Nat → Nat → Int32) (a17 c : Nat → Int32) : Prop := f 56 1 = c 1 ∧ zB (c 1) 0 1000000000 ∧ f 56 2 = c 2 ∧ zB (c 2) 0 100 ∧ ∀ q, q < 3 → a 57 q = a17 q ∧ zB (a17 q) 0 1000
def Rel (N : Nat) (a : Nat → Nat → Int32) (b : Nat → Nat → Int64) (f : Nat → Nat → Int32) (g : Nat → Nat → Int64) (a' : Nat → Nat → Int32) (b' : Nat → Nat → Int64) (c' : Nat → Int32) : Prop := R1 a b a' b' ∧ R2 a f (a' 4) (a' 5) (a' 6) ∧ (∃ tm : Nat, tm ≤ 50 * N ∧ f 0 0 = nI tm ∧ c' 0 = nI tm ∧ R3 a b f g (a' 7) (a' 8) (b' 9) (b' 10) (1000000 * (tm : Int))) ∧ R4 a b f (a' 12) (a' 13) (a' 14) (a' 15) (b' 16) ∧ R5 a f (a' 17) c'
section RF
variable {a a1 f f1 : Nat → Nat → Int32} {b b1 g g1 : Nat → Nat → Int64}
theorem R2_fr {a4 a5 a6 : Nat → Int32} (h : R2 a f a4 a5 a6) (e1 : ∀ p, 6 ≤ p → p < 14 → a1 p = a p) (e2 : ∀ p, 6 ≤ p → p < 14 → f1 p = f p) : R2 a1 f1 a4 a5 a6 := by
  intro s hs
  rw [e1 (7 + 2 * s) (by omega) (by omega), e2 (6 + 2 * s) (by omega) (by omega)]
  exact h s hs
theorem R3_fr {a7 a8 : Nat → Int32} {b9 b10 : Nat → Int64} {T : Int} (h : R3 a b f g a7 a8 b9 b10 T) (e1 : ∀ p, 15 ≤ p → p < 27 → a1 p = a p) (e2 : ∀ p, 15 ≤ p → p < 27 → b1 p = b p) (e3 : ∀ p, 15 ≤ p → p < 27 → f1 p = f p) (e4 : ∀ p, 15 ≤ p → p < 27 → g1 p = g p) : R3 a1 b1 f1 g1 a7 a8 b9 b10 T := by
  intro s hs
  rw [e1 (16 + 4 * s) (by omega) (by omega), e2 (17 + 4 * s) (by omega) (by omega), e3 (15 + 4 * s) (by omega) (by omega), e4 (15 + 4 * s) (by omega) (by omega)]
  exact h s hs
theorem dRel_s {sh nu : Nat → Int64} {s s1 : Nat → Nat → Int64} {gp : Nat → Int32} {d lt cn : Nat} (h : dRel sh nu s gp d lt cn) (e : ∀ i, i < 3 → s1 i = s i) : dRel sh nu s1 gp d lt cn := by
  intro j hj
  obtain ⟨h1, h2⟩ := h j hj
  refine ⟨?_, by rw [e 0 (by omega), e 1 (by omega), e 2 (by omega)]; exact h2⟩
  rcases h1 with h1 | ⟨h1, h3⟩
  · exact Or.inl h1
  · exact Or.inr ⟨h1, fun i hi => by rw [e i hi]; exact h3 i hi⟩
theorem R4_fr {a12 a13 a14 a15 : Nat → Int32} {b16 : Nat → Int64} (h : R4 a b f a12 a13 a14 a15 b16) (e1 : ∀ p, 28 ≤ p → p < 56 → a1 p = a p) (e2 : ∀ p, 28 ≤ p → p < 56 → b1 p = b p) (e3 : ∀ p, 28 ≤ p → p < 56 → f1 p = f p) : R4 a1 b1 f1 a12 a13 a14 a15 b16 := by
  intro d hd
  obtain ⟨bx, lt, cn, h1, h2, h3, h4, h5, h6, h7, h8, h9, h10, h11, h12, h13⟩ := h d hd
  rw [e3 (28 + 7 * d) (by omega) (by omega), e1 (34 + 7 * d) (by omega) (by omega), e2 (29 + 7 * d) (by omega) (by omega)]
  exact ⟨bx, lt, cn, h1, h2, h3, h4, h5, h6, h7, h8, h9, h10, h11, h12, dRel_s h13 (fun i hi => e2 (31 + 7 * d + i) (by omega) (by omega))⟩
theorem R5_fr {a17 c c1 : Nat → Int32} (h : R5 a f a17 c) (e1 : a1 57 = a 57) (e2 : f1 56 1 = f 56 1) (e3 : f1 56 2 = f 56 2) (e4 : c1 1 = c 1) (e5 : c1 2 = c 2) : R5 a1 f1 a17 c1 := by
  unfold R5
  rw [e1, e2, e3, e4, e5]
  exact h
end RF
theorem Rel_up {N : Nat} {a f a' : Nat → Nat → Int32} {b g b' : Nat → Nat → Int64} {c' : Nat → Int32} (h : Rel N a b f g a' b' c') : Rel (N + 1) a b f g a' b' c' := by
  obtain ⟨h1, h2, ⟨tm, t1, t2⟩, h4⟩ := h
  exact ⟨h1, h2, ⟨tm, by omega, t2⟩, h4⟩
/-- the net's bounds -/
theorem R1_net {a a' : Nat → Nat → Int32} {b b' : Nat → Nat → Int64} (h : R1 a b a' b') : (∀ w, w < 24 → -50176000 ≤ (b 4 w).toInt ∧ (b 4 w).toInt ≤ 50176000) ∧ ∀ q, q < 9 → sumI (outI (fun w => (b 4 w).toInt) q) 24 ≤ 100352000 := by
  obtain ⟨h1, -, h3, -⟩ := h
  have hw : ∀ k, k < 24 → zB (a' 1 k) (-100) 100 := fun k hk => (h1 k hk).2
  have e : ∀ w, w < 24 → (b 4 w).toInt = sI (WI (a' 1)) w := fun w hk => by
    rw [h3 w hk]
    exact st_int hw hk
  refine ⟨fun w hk => ?_, fun q hq => out_le (WI_le hw) e hq⟩
  rw [e w hk]
  exact sI_le (WI_le hw) hk
/-! the doors write, all four -/
section WA
variable {S g : Nat → Int64} {M a12 a13 : Nat → Int32} {nu nu1 : Nat → Nat → Int64} {s s1 : Nat → Nat → Nat → Int64} {gp gp1 F nF : Nat → Nat → Int32} {lt cn bx : Nat → Nat} {pl : Nat → Nat → Int64}
theorem wr_all (h : ∀ d, d < 4 → dRel S (nu d) (s d) (gp d) d (lt d) (cn d)) (hM : ∀ d, d < 4 → cn d ≤ 100 ∧ M d = nI (cn d)) (hB : ∀ d, d < 4 → bx d < 9 ∧ a12 d = nI (bx d)) (hlt : ∀ d, d < 4 → lt d < 100) (hF : ∀ d, d < 4 → F d 3 = a13 d) (hG : ∀ d, d < 4 → ∀ i, i < 3 → g (9 * i + bx d) = pl i (bx d) ∧ okV (pl i (bx d))) (hw : ∀ d, d < 4 → wrL (bx d) (lt d) (cn d) pl (nu d) (s d 0) (s d 1) (s d 2) (gp d) (F d) (nu1 d) (s1 d 0) (s1 d 1) (s1 d 2) (gp1 d) (nF d)) (n : Nat) : n ≤ 4 → ∀ d, d < 4 → (d < n → dRel (zfold (wrQ a12 a13 g) n (S, M)).1 (nu1 d) (s1 d) (gp1 d) d ((lt d + 1) % 100) (if cn d + 1 ≤ 100 then cn d + 1 else 100) ∧ (zfold (wrQ a12 a13 g) n (S, M)).2 d = nI (if cn d + 1 ≤ 100 then cn d + 1 else 100)) ∧ (n ≤ d → dRel (zfold (wrQ a12 a13 g) n (S, M)).1 (nu d) (s d) (gp d) d (lt d) (cn d) ∧ (zfold (wrQ a12 a13 g) n (S, M)).2 d = nI (cn d)) := by
  induction n with
  | zero =>
    intro _ d hd
    exact ⟨fun q => absurd q (Nat.not_lt_zero d), fun _ => ⟨h d hd, (hM d hd).2⟩⟩
  | succ n ih =>
    intro hn d hd
    have hz : zfold (wrQ a12 a13 g) (n + 1) (S, M) = wrQ a12 a13 g n (zfold (wrQ a12 a13 g) n (S, M)) := rfl
    have hi := ih (by omega)
    generalize zfold (wrQ a12 a13 g) n (S, M) = Z at hz hi
    rw [hz]
    unfold wrQ
    dsimp only
    obtain ⟨c1, c2⟩ := (hi n (by omega)).2 (Nat.le_refl n)
    have hcn := (hM n (by omega)).1
    rw [c2, nI_clamp (by omega), (hB n (by omega)).2, nI_clamp (by have := (hB n (by omega)).1; omega)]
    have hc : (if cn n + 1 ≤ 100 then cn n + 1 else 100) = wrE (cn n) + 1 := by
      unfold wrE
      split <;> split <;> omega
    refine ⟨fun q => ?_, fun q => ?_⟩
    · by_cases e : d = n
      · subst e
        refine ⟨?_, ?_⟩
        · rw [← hF d hd]
          exact wr_one rfl rfl rfl rfl rfl rfl (hlt d hd) hcn (hG d hd) c1 (hw d hd)
        · unfold wrM
          rw [if_pos rfl, hc]
      · obtain ⟨k1, k2⟩ := (hi d hd).1 (by omega)
        refine ⟨wr_other (fun q => e q.symm) hcn (by split <;> omega) k1, ?_⟩
        unfold wrM
        rw [if_neg e]
        exact k2
    · obtain ⟨k1, k2⟩ := (hi d hd).2 (by omega)
      refine ⟨wr_other (by omega) hcn (hM d hd).1 k1, ?_⟩
      unfold wrM
      rw [if_neg (by omega)]
      exact k2
end WA
section HO
variable {r : Int32} {tm : Nat} {a f a1 f1 : Nat → Nat → Int32} {b g b1 g1 : Nat → Nat → Int64} {a7 a8 a12 a13 a14 a15 : Nat → Int32} {b9 b10 b16 st : Nat → Int64}
theorem hour_ok (hr : zB r 0 1000) (htm : tm ≤ 30000) (h3 : R3 a b f g a7 a8 b9 b10 (1000000 * (tm : Int))) (h4 : R4 a b f a12 a13 a14 a15 b16) (hst : ∀ w, w < 24 → st w = b 4 w) (hs : ∀ w, w < 24 → -50176000 ≤ (b 4 w).toInt ∧ (b 4 w).toInt ≤ 50176000) (ho : ∀ q, q < 9 → sumI (outI (fun w => (b 4 w).toInt) q) 24 ≤ 100352000) (hh : hrC r tm a b f g a1 b1 f1 g1) : R3 a1 b1 f1 g1 a7 a8 (hrQ st a7 a8 a12 a13 r tm (b9, b10, b16, a15)).1 (hrQ st a7 a8 a12 a13 r tm (b9, b10, b16, a15)).2.1 (1000000 * ((tm + 1 : Nat) : Int)) ∧ R4 a1 b1 f1 a12 a13 a14 (hrQ st a7 a8 a12 a13 r tm (b9, b10, b16, a15)).2.2.2 (hrQ st a7 a8 a12 a13 r tm (b9, b10, b16, a15)).2.2.1 ∧ (∀ p, p < 28 ∨ 56 ≤ p → a1 p = a p) ∧ (b1 3 = b 3 ∧ b1 4 = b 4) ∧ (∀ p, 0 < p → p < 28 ∨ 56 ≤ p → f1 p = f p) ∧ f1 0 0 = nI (tm + 1) := by
  obtain ⟨b0, ⟨i1, i2⟩, ⟨k1, k2, k3, k4⟩⟩ := hh
  have hF : ∀ p, 0 < p → va_up f 0 (va_up (f 0) 0 (nI (tm + 1))) p = f p := fun p hp => va_up_ne _ _ (by omega)
  have fF : ∀ p, 0 < p → p < 28 ∨ 56 ≤ p → f1 p = f p := fun p hp h => by rw [k4 p h, hF p hp]
  have hb : ∀ w, w < 24 → -9223372036854775808 < (b 4 w).toInt := fun w hw => by have := hs w hw; omega
  have hsr : ∀ s, s < 3 → SR s (b0 (17 + 4 * s)) (g1 (15 + 4 * s)) (zfold (cyS st a7 a8 r tm) 3 (b9, b10)).1 (zfold (cyS st a7 a8 r tm) 3 (b9, b10)).2 := by
    refine cy_all (hm := fun s => (f (15 + 4 * s) 0).toNatClampNeg) (pl := fun s => b (17 + 4 * s)) (G := fun s => g (15 + 4 * s)) (pl1 := fun s => b0 (17 + 4 * s)) (G1 := fun s => g1 (15 + 4 * s)) (nt := b 4) (fun s hs => (h3 s hs).2.2.1) (fun s hs => ?_) hst hb (fun s hs => ?_)
    · obtain ⟨hm, m1, m2, m3⟩ := (h3 s hs).1
      rw [m2, nI_clamp (by omega)]
      exact ⟨m1, m3⟩
    · have q := (i1 s hs).1 hs
      rw [((h3 s hs).2.1 (tm % 24) (by omega)).1] at q
      exact q
  have hso : ∀ s, s < 3 → srcOK (b0 (17 + 4 * s)) (1000000 * ((tm + 1 : Nat) : Int)) := fun s hss => by
    obtain ⟨hm, m1, m2, m3⟩ := (h3 s hss).1
    have q := (i1 s hss).1 hss
    obtain ⟨e1, e2⟩ := (h3 s hss).2.1 (tm % 24) (by omega)
    rw [e1, m2, nI_clamp (by omega)] at q
    have := stuff_ok (T := 1000000 * (tm : Int)) (by omega) m1 e2 hr hs ho (h3 s hss).2.2.2 q
    rw [show (1000000 * ((tm + 1 : Nat) : Int)) = 1000000 * (tm : Int) + 1000000 by omega]
    exact this
  refine ⟨fun s hss => ?_, ?_, k2, ⟨?_, ?_⟩, fF, ?_⟩
  · rw [fF (15 + 4 * s) (by omega) (by omega), k2 (16 + 4 * s) (by omega), k3 (17 + 4 * s) (by omega)]
    exact ⟨(h3 s hss).1, (h3 s hss).2.1, hsr s hss, hso s hss⟩
  · have hX : ∀ d, d < 4 → (f (28 + 7 * d) 0).toNatClampNeg < 9 ∧ (f (28 + 7 * d) 2).toNatClampNeg < 100 ∧ (f (28 + 7 * d) 1).toNatClampNeg ≤ 100 ∧ a12 d = nI (f (28 + 7 * d) 0).toNatClampNeg ∧ a15 d = nI (f (28 + 7 * d) 1).toNatClampNeg ∧ f (28 + 7 * d) 3 = a13 d ∧ dRel b16 (b (29 + 7 * d)) (fun i => b (31 + 7 * d + i)) (a (34 + 7 * d)) d (f (28 + 7 * d) 2).toNatClampNeg (f (28 + 7 * d) 1).toNatClampNeg := fun d hd => by
      obtain ⟨bx, lt, cn, q1, q2, q3, q4, q5, q6, q7, q8, q9, q10, q11, q12, q13⟩ := h4 d hd
      rw [q4, q6, q7, nI_clamp (by omega), nI_clamp (by omega), nI_clamp (by omega)]
      exact ⟨q1, q2, q3, q5, q8, q9, q13⟩
    have hW : ∀ d, d < 4 → wrL (f (28 + 7 * d) 0).toNatClampNeg (f (28 + 7 * d) 2).toNatClampNeg (f (28 + 7 * d) 1).toNatClampNeg (fun s => b0 (17 + 4 * s)) (b (29 + 7 * d)) (b (31 + 7 * d + 0)) (b (31 + 7 * d + 1)) (b (31 + 7 * d + 2)) (a (34 + 7 * d)) (f (28 + 7 * d)) (b1 (29 + 7 * d)) (b1 (31 + 7 * d + 0)) (b1 (31 + 7 * d + 1)) (b1 (31 + 7 * d + 2)) (a1 (34 + 7 * d)) (f1 (28 + 7 * d)) := fun d hd => by
      have q := (k1 d hd).1 hd
      unfold wrLd at q
      rw [hF (28 + 7 * d) (by omega), i2 (29 + 7 * d) (by omega), i2 (31 + 7 * d) (by omega), i2 (32 + 7 * d) (by omega), i2 (33 + 7 * d) (by omega)] at q
      rw [show 31 + 7 * d + 0 = 31 + 7 * d by omega, show 31 + 7 * d + 1 = 32 + 7 * d by omega, show 31 + 7 * d + 2 = 33 + 7 * d by omega]
      exact q
    have hA := wr_all (g := (zfold (cyS st a7 a8 r tm) 3 (b9, b10)).1) (a12 := a12) (a13 := a13) (S := b16) (M := a15) (nu := fun d => b (29 + 7 * d)) (s := fun d i => b (31 + 7 * d + i)) (gp := fun d => a (34 + 7 * d)) (lt := fun d => (f (28 + 7 * d) 2).toNatClampNeg) (cn := fun d => (f (28 + 7 * d) 1).toNatClampNeg) (bx := fun d => (f (28 + 7 * d) 0).toNatClampNeg) (F := fun d => f (28 + 7 * d)) (pl := fun s => b0 (17 + 4 * s)) (nu1 := fun d => b1 (29 + 7 * d)) (s1 := fun d i => b1 (31 + 7 * d + i)) (gp1 := fun d => a1 (34 + 7 * d)) (nF := fun d => f1 (28 + 7 * d)) (fun d hd => (hX d hd).2.2.2.2.2.2) (fun d hd => ⟨(hX d hd).2.2.1, (hX d hd).2.2.2.2.1⟩) (fun d hd => ⟨(hX d hd).1, (hX d hd).2.2.2.1⟩) (fun d hd => (hX d hd).2.1) (fun d hd => (hX d hd).2.2.2.2.2.1) (fun d hd i hi => ⟨((hsr i hi).1 _ (hX d hd).1).symm, by
        have := srcOK_each (hso i hi) (q := (f (28 + 7 * d) 0).toNatClampNeg) (by have := (hX d hd).1; omega)
        unfold okV
        omega⟩) hW 4 (Nat.le_refl 4)
    intro d hd
    obtain ⟨bx, lt, cn, q1, q2, q3, q4, q5, q6, q7, q8, q9, q10, q11, q12, q13⟩ := h4 d hd
    obtain ⟨z1, z2⟩ := (hA d hd).1 hd
    have w6 := (hW d hd).2.2.2.2.2
    rw [q6, q7, nI_clamp (by omega), nI_clamp (by omega)] at z1 w6
    rw [q7, nI_clamp (by omega)] at z2
    refine ⟨bx, (lt + 1) % 100, (if cn + 1 ≤ 100 then cn + 1 else 100), q1, by omega, by split <;> omega, ?_, q5, ?_, ?_, z2, ?_, q10, ?_, q12, z1⟩
    · rw [w6, va_up_ne _ _ (by decide), va_up_ne _ _ (by decide)]
      exact q4
    · rw [w6, va_up_ne _ _ (by decide), va_up_self]
    · rw [w6, va_up_self]
    · rw [w6, va_up_ne _ _ (by decide), va_up_ne _ _ (by decide)]
      exact q9
    · rw [w6, va_up_ne _ _ (by decide), va_up_ne _ _ (by decide)]
      exact q11
  · rw [k3 3 (by omega), i2 3 (by omega)]
  · rw [k3 4 (by omega), i2 4 (by omega)]
  · rw [k4 0 (by omega), va_up_self, va_up_self]
theorem hours_ok (hr : zB r 0 1000) (h3 : R3 a b f g a7 a8 b9 b10 (1000000 * (tm : Int))) (h4 : R4 a b f a12 a13 a14 a15 b16) (h0 : f 0 0 = nI tm) (hst : ∀ w, w < 24 → st w = b 4 w) (hs : ∀ w, w < 24 → -50176000 ≤ (b 4 w).toInt ∧ (b 4 w).toInt ≤ 50176000) (ho : ∀ q, q < 9 → sumI (outI (fun w => (b 4 w).toInt) q) 24 ≤ 100352000) (n : Nat) : ∀ (a1 : Nat → Nat → Int32) (b1 : Nat → Nat → Int64) (f1 : Nat → Nat → Int32) (g1 : Nat → Nat → Int64), tm + n ≤ 30000 → hrsC r tm a b f g n a1 b1 f1 g1 → R3 a1 b1 f1 g1 a7 a8 (hrsQ st a7 a8 a12 a13 r tm n (b9, b10, b16, a15)).1 (hrsQ st a7 a8 a12 a13 r tm n (b9, b10, b16, a15)).2.1 (1000000 * ((tm + n : Nat) : Int)) ∧ R4 a1 b1 f1 a12 a13 a14 (hrsQ st a7 a8 a12 a13 r tm n (b9, b10, b16, a15)).2.2.2 (hrsQ st a7 a8 a12 a13 r tm n (b9, b10, b16, a15)).2.2.1 ∧ (∀ p, p < 28 ∨ 56 ≤ p → a1 p = a p) ∧ (b1 3 = b 3 ∧ b1 4 = b 4) ∧ (∀ p, 0 < p → p < 28 ∨ 56 ≤ p → f1 p = f p) ∧ f1 0 0 = nI (tm + n) := by
  induction n with
  | zero =>
    intro a1 b1 f1 g1 _ hc
    obtain ⟨rfl, rfl, rfl, rfl⟩ := hc
    exact ⟨h3, h4, fun _ _ => rfl, ⟨rfl, rfl⟩, fun _ _ _ => rfl, h0⟩
  | succ n ih =>
    intro a1 b1 f1 g1 ht hc
    obtain ⟨a2, b2, f2, g2, c1, c2⟩ := hc
    obtain ⟨i3, i4, i5, ⟨i6, i7⟩, i8, i9⟩ := ih a2 b2 f2 g2 (by omega) c1
    rw [hrsQ_s]
    generalize hrsQ st a7 a8 a12 a13 r tm n (b9, b10, b16, a15) = Q at *
    obtain ⟨Q1, Q2, Q3, Q4⟩ := Q
    obtain ⟨j3, j4, j5, ⟨j6, j7⟩, j8, j9⟩ := hour_ok hr (by omega) i3 i4 (by rw [i7]; exact hst) (by rw [i7]; exact hs) (by rw [i7]; exact ho) c2
    refine ⟨j3, j4, fun p hp => by rw [j5 p hp, i5 p hp], ⟨by rw [j6, i6], by rw [j7, i7]⟩, fun p hp h => by rw [j8 p hp h, i8 p hp h], j9⟩
end HO
