/-! ===== an hour, on both sides ===== -/
/-- a source on both sides -/
def SR (s : Nat) (pl G g t : Nat → Int64) : Prop := (∀ q, q < 9 → pl q = g (9 * s + q)) ∧ (∀ k, k < 3 → G k = t (4 * s + k)) ∧ pl 9 = t (4 * s + 3)
section CY
variable {s : Nat} {pl G g t st nt pl1 G1 : Nat → Int64} {hm : Nat} {rt r : Int32}
theorem accA_congr3 {f h : Nat → Int64} (n : Nat) (x : Int64) (e : ∀ k, k < n → f k = h k) : accA f n x = accA h n x := by
  rw [accA_lin f, accA_lin h, accA_congr2 n e]
theorem off_p1 (h : SR s pl G g t) (hh : hm < 9) {q : Nat} (hq : q < 9) : offG g s hm rt (9 * s + q) = p1F pl hm rt q := by
  unfold offG p1F vp_updL
  by_cases e : q = hm
  · subst e
    rw [if_pos rfl, if_pos rfl, h.1 q hq]
  · rw [if_neg (by omega), if_neg e, h.1 q hq]
theorem cy_one (h : SR s pl G g t) (hh : hm < 9) (hst : ∀ w, w < 24 → st w = nt w) (hb : ∀ w, w < 24 → -9223372036854775808 < (nt w).toInt) (hs : stH nt hm rt r pl G pl1 G1) : SR s pl1 G1 (cyG st g s hm rt r) (cyT st g t s hm rt r) := by
  obtain ⟨h1, h2, h3, h4⟩ := hs
  have hn : ∀ q, q < 9 → nnF (offG g s hm rt) s r q = p2F pl hm rt r q := fun q hq => by
    unfold nnF p2F leftF
    rw [if_pos hq, off_p1 h hh hq, Int64.sub_eq_add_neg, Int64.sub_eq_add_neg, Int64.sub_eq_add_neg, Int64.neg_add, Int64.add_assoc, Int64.sub_eq_add_neg]
  refine ⟨fun q hq => ?_, fun k hk => ?_, ?_⟩
  · unfold cyG
    rw [if_pos (by omega), show 9 * s + q - 9 * s = q by omega, carry_in hq hn hst hb]
    exact h1 q (by omega)
  · unfold cyT
    rcases (show k = 0 ∨ k = 1 ∨ k = 2 by omega) with e | e | e <;> subst e
    · rw [if_neg (by omega), if_neg (by omega), if_neg (by omega), if_pos (by omega), h2, h.2.1 0 (by omega)]
      rfl
    · rw [if_pos rfl, h3, h.2.1 1 (by omega)]
      exact accA_congr3 9 _ (fun x hx => by rw [off_p1 h hh hx])
    · rw [if_neg (by omega), if_pos rfl, h4, h.2.1 2 (by omega)]
      exact accA_congr3 9 _ (fun x hx => by rw [off_p1 h hh hx])
  · unfold cyT
    rw [if_neg (by omega), if_neg (by omega), if_pos rfl, carry_out hn hst hb, h1 9 (by omega), ← h.2.2]
    have e : p2F pl hm rt r 9 = pl 9 := by
      unfold p2F p1F vp_updL
      rw [if_neg (by omega), if_neg (by omega)]
    rw [e]
theorem cy_other {u : Nat} (hne : u ≠ s) (h : SR s pl G g t) : SR s pl G (cyG st g u hm rt r) (cyT st g t u hm rt r) := by
  refine ⟨fun q hq => ?_, fun k hk => ?_, ?_⟩
  · unfold cyG
    rw [if_neg (by omega)]
    exact h.1 q hq
  · unfold cyT
    rw [if_neg (by omega), if_neg (by omega), if_neg (by omega), if_neg (by omega)]
    exact h.2.1 k hk
  · unfold cyT
    rw [if_neg (by omega), if_neg (by omega), if_neg (by omega), if_neg (by omega)]
    exact h.2.2
end CY
/-- all three sources -/
theorem cy_all {st nt g t : Nat → Int64} {a7 a8 : Nat → Int32} {r : Int32} {tm : Nat} {hm : Nat → Nat} {pl G pl1 G1 : Nat → Nat → Int64} (h : ∀ s, s < 3 → SR s (pl s) (G s) g t) (h7 : ∀ s, s < 3 → hm s < 9 ∧ a7 s = nI (hm s)) (hst : ∀ w, w < 24 → st w = nt w) (hb : ∀ w, w < 24 → -9223372036854775808 < (nt w).toInt) (hs : ∀ s, s < 3 → stH nt (hm s) (a8 (24 * s + tm % 24)) r (pl s) (G s) (pl1 s) (G1 s)) : ∀ s, s < 3 → SR s (pl1 s) (G1 s) (zfold (cyS st a7 a8 r tm) 3 (g, t)).1 (zfold (cyS st a7 a8 r tm) 3 (g, t)).2 := by
  have e7 : ∀ s, s < 3 → (a7 s).toNatClampNeg = hm s := fun s hs => by
    rw [(h7 s hs).2, nI_clamp (by have := (h7 s hs).1; omega)]
  intro s hss
  show SR s (pl1 s) (G1 s) (cyS st a7 a8 r tm 2 (cyS st a7 a8 r tm 1 (cyS st a7 a8 r tm 0 (g, t)))).1 (cyS st a7 a8 r tm 2 (cyS st a7 a8 r tm 1 (cyS st a7 a8 r tm 0 (g, t)))).2
  unfold cyS
  dsimp only
  rw [e7 0 (by omega), e7 1 (by omega), e7 2 (by omega)]
  rcases (show s = 0 ∨ s = 1 ∨ s = 2 by omega) with e | e | e <;> subst e
  · exact cy_other (by decide) (cy_other (by decide) (cy_one (h 0 hss) (h7 0 hss).1 hst hb (hs 0 hss)))
  · exact cy_other (by decide) (cy_one (cy_other (by decide) (h 1 hss)) (h7 1 hss).1 hst hb (hs 1 hss))
  · exact cy_one (cy_other (by decide) (cy_other (by decide) (h 2 hss))) (h7 2 hss).1 hst hb (hs 2 hss)
/-! what the doors write down -/
theorem sl_0 {lt : Nat} (h : lt < 100) : slF ((lt + 1) % 100) 0 = (lt + 1) % 100 := by
  unfold slF
  omega
theorem sl_s {lt j : Nat} (h : lt < 100) (hj : j < 99) : slF ((lt + 1) % 100) (j + 1) = slF lt j ∧ slF lt j ≠ (lt + 1) % 100 := by
  unfold slF
  omega
section WR
variable {S G : Nat → Int64} {nu s0 s1 s2 : Nat → Int64} {gp : Nat → Int32} {d lt cn : Nat}
theorem wr_other {lost : Int32} {e db mn : Nat} {s : Nat → Nat → Int64} (hne : e ≠ d) (hmn : mn ≤ 100) (hcn : cn ≤ 100) (h : dRel S nu s gp d lt cn) : dRel (wrS S G lost e db mn) nu s gp d lt cn := by
  have hE : wrE mn ≤ 99 := by
    unfold wrE
    split <;> omega
  have key : ∀ k i, k < 100 → i < 3 → wrS S G lost e db mn (300 * d + 3 * k + i) = S (300 * d + 3 * k + i) := fun k i hk hi => by
    unfold wrS
    rw [if_neg (by omega), if_neg (by omega)]
  intro j hj
  obtain ⟨h1, h2⟩ := h j hj
  refine ⟨?_, h2⟩
  rcases h1 with ⟨h3, h4⟩ | ⟨h3, h4⟩
  · exact Or.inl ⟨h3, fun i hi => by rw [key _ i (by omega) hi]; exact h4 i hi⟩
  · exact Or.inr ⟨h3, fun i hi => by rw [key _ i (by omega) hi]; exact h4 i hi⟩
theorem wr_one {F nF : Nat → Int32} {pl : Nat → Nat → Int64} {bx : Nat} {nu1 s01 s11 s21 : Nat → Int64} {gp1 : Nat → Int32} {s : Nat → Nat → Int64} (e0 : s 0 = s0) (e1 : s 1 = s1) (e2 : s 2 = s2) {u : Nat → Nat → Int64} (f0 : u 0 = s01) (f1 : u 1 = s11) (f2 : u 2 = s21) (hlt : lt < 100) (hcn : cn ≤ 100) (hG : ∀ i, i < 3 → G (9 * i + bx) = pl i bx ∧ okV (pl i bx)) (h : dRel S nu s gp d lt cn) (hw : wrL bx lt cn pl nu s0 s1 s2 gp F nu1 s01 s11 s21 gp1 nF) : dRel (wrS S G (F 3) d bx cn) nu1 u gp1 d ((lt + 1) % 100) (if cn + 1 ≤ 100 then cn + 1 else 100) := by
  obtain ⟨w1, w2, w3, w4, w5, -⟩ := hw
  subst e0
  subst e1
  subst e2
  have hu : ∀ i, i < 3 → u i = vp_updL (s i) ((lt + 1) % 100) (pl i bx) := fun i hi => by
    rcases (show i = 0 ∨ i = 1 ∨ i = 2 by omega) with e | e | e <;> subst e
    · rw [f0, w2]
    · rw [f1, w3]
    · rw [f2, w4]
  have hc : (if cn + 1 ≤ 100 then cn + 1 else 100) = wrE cn + 1 := by
    unfold wrE
    split <;> split <;> omega
  rw [hc]
  intro j hj
  cases j with
  | zero =>
    rw [sl_0 hlt, show wrE cn + 1 - 1 - 0 = wrE cn by omega]
    have hs : ∀ i, i < 3 → u i ((lt + 1) % 100) = pl i bx := fun i hi => by
      rw [hu i hi]
      unfold vp_updL
      rw [if_pos rfl]
    have hg : gp1 ((lt + 1) % 100) = F 3 := by
      rw [w5]
      unfold upd
      rw [if_pos rfl]
    have hv : ∀ i, i < 3 → wrS S G (F 3) d bx cn (300 * d + 3 * wrE cn + i) = wrV G (F 3) bx i := fun i hi => by
      unfold wrS
      rw [if_pos (by omega), show 300 * d + 3 * wrE cn + i - (300 * d + 3 * wrE cn) = i by omega]
    refine ⟨?_, ?_⟩
    · by_cases hl : F 3 = 0
      · refine Or.inr ⟨by rw [hg]; exact hl, fun i hi => ?_⟩
        rw [hv i hi, hs i hi]
        unfold wrV
        rw [if_pos hl]
        exact hG i hi
      · refine Or.inl ⟨by rw [hg]; exact hl, fun i hi => ?_⟩
        rw [hv i hi]
        unfold wrV
        rw [if_neg hl]
    · rw [hs 0 (by omega), hs 1 (by omega), hs 2 (by omega), w1]
      unfold vp_updL
      rw [if_pos rfl]
  | succ j =>
    have hE : wrE cn ≤ 99 ∧ wrE cn ≤ cn ∧ (cn < 100 → wrE cn = cn) ∧ (cn = 100 → wrE cn = 99) := by
      unfold wrE
      split <;> omega
    obtain ⟨q1, q2⟩ := sl_s hlt (j := j) (by omega)
    rw [q1]
    obtain ⟨h1, h2⟩ := h j (by omega)
    have hs : ∀ i, i < 3 → u i (slF lt j) = s i (slF lt j) := fun i hi => by
      rw [hu i hi]
      unfold vp_updL
      rw [if_neg q2]
    have hg : gp1 (slF lt j) = gp (slF lt j) := by
      rw [w5]
      unfold upd
      rw [if_neg q2]
    have hv : ∀ i, i < 3 → wrS S G (F 3) d bx cn (300 * d + 3 * (wrE cn + 1 - 1 - (j + 1)) + i) = S (300 * d + 3 * (cn - 1 - j) + i) := fun i hi => by
      unfold wrS
      rw [if_neg (by omega)]
      by_cases hf : cn = 100
      · rw [if_pos (by omega), show 300 * d + 3 * (wrE cn + 1 - 1 - (j + 1)) + i + 3 = 300 * d + 3 * (cn - 1 - j) + i by omega]
      · rw [if_neg (by omega), show 300 * d + 3 * (wrE cn + 1 - 1 - (j + 1)) + i = 300 * d + 3 * (cn - 1 - j) + i by omega]
    rw [hg, hs 0 (by omega), hs 1 (by omega), hs 2 (by omega)]
    refine ⟨?_, ?_⟩
    · rcases h1 with ⟨h3, h4⟩ | ⟨h3, h4⟩
      · exact Or.inl ⟨h3, fun i hi => by rw [hv i hi]; exact h4 i hi⟩
      · exact Or.inr ⟨h3, fun i hi => by rw [hv i hi, hs i hi]; exact h4 i hi⟩
    · rw [w1]
      unfold vp_updL
      rw [if_neg q2, if_neg q2, if_neg q2, if_neg q2]
      exact h2
end WR
