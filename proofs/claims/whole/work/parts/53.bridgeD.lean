/-! ===== bridges: the doors' hours, the latest first against the oldest first ===== -/
def natA (f : Nat → Nat) (n : Nat) : Nat := zfold (fun k t => t + f k) n 0
theorem natA_s (f : Nat → Nat) (n : Nat) : natA f (n + 1) = natA f n + f n := rfl
theorem natA_front (f : Nat → Nat) : ∀ n, natA f (n + 1) = f 0 + natA (fun k => f (k + 1)) n
  | 0 => by
    show 0 + f 0 = f 0 + 0
    omega
  | n + 1 => by
    rw [natA_s, natA_front f n, natA_s]
    omega
theorem natA_congr {f h : Nat → Nat} : ∀ n, (∀ k, k < n → f k = h k) → natA f n = natA h n
  | 0, _ => rfl
  | n + 1, e => by rw [natA_s, natA_s, natA_congr n (fun k hk => e k (by omega)), e n (by omega)]
theorem natA_rev (f : Nat → Nat) : ∀ n, natA f n = natA (fun k => f (n - 1 - k)) n
  | 0 => rfl
  | n + 1 => by
    rw [natA_front (fun k => f (n + 1 - 1 - k)) n, natA_s, natA_rev f n, natA_congr (f := fun k => f (n + 1 - 1 - (k + 1))) (h := fun k => f (n - 1 - k)) n (fun k hk => by rw [show n + 1 - 1 - (k + 1) = n - 1 - k by omega])]
    show _ = f (n + 1 - 1 - 0) + _
    rw [show n + 1 - 1 - 0 = n by omega]
    omega
theorem accA_front (f : Nat → Int64) : ∀ n, accA f (n + 1) 0 = f 0 + accA (fun k => f (k + 1)) n 0
  | 0 => by
    show 0 + f 0 = f 0 + 0
    rw [Int64.zero_add, Int64.add_zero]
  | n + 1 => by
    rw [accA_s, accA_front f n, accA_s, Int64.add_assoc]
theorem accA_congr2 {f h : Nat → Int64} : ∀ n, (∀ k, k < n → f k = h k) → accA f n 0 = accA h n 0
  | 0, _ => rfl
  | n + 1, e => by rw [accA_s, accA_s, accA_congr2 n (fun k hk => e k (by omega)), e n (by omega)]
theorem accA_rev (f : Nat → Int64) : ∀ n, accA f n 0 = accA (fun k => f (n - 1 - k)) n 0
  | 0 => rfl
  | n + 1 => by
    rw [accA_front (fun k => f (n + 1 - 1 - k)) n, accA_s, accA_rev f n, accA_congr2 (f := fun k => f (n + 1 - 1 - (k + 1))) (h := fun k => f (n - 1 - k)) n (fun k hk => by rw [show n + 1 - 1 - (k + 1) = n - 1 - k by omega])]
    show _ = f (n + 1 - 1 - 0) + _
    rw [show n + 1 - 1 - 0 = n by omega, Int64.add_comm]
/-- what a share may be -/
def okV (x : Int64) : Prop := 0 ≤ x.toInt ∧ x.toInt ≤ 1000000000000
/-- a door's hours: sh the reference's row, s, nu, gp the class's rings -/
def dRel (sh : Nat → Int64) (nu : Nat → Int64) (s : Nat → Nat → Int64) (gp : Nat → Int32) (d lt cn : Nat) : Prop := ∀ j, j < cn → ((¬ gp (slF lt j) = 0 ∧ ∀ i, i < 3 → sh (300 * d + 3 * (cn - 1 - j) + i) = -1) ∨ (gp (slF lt j) = 0 ∧ ∀ i, i < 3 → sh (300 * d + 3 * (cn - 1 - j) + i) = s i (slF lt j) ∧ okV (s i (slF lt j)))) ∧ nu (slF lt j) = 0 + s 0 (slF lt j) + s 1 (slF lt j) + s 2 (slF lt j)
theorem okV_sum {x y z : Int64} (hx : okV x) (hy : okV y) (hz : okV z) : (x + y + z).toInt = x.toInt + y.toInt + z.toInt := by
  unfold okV at hx hy hz
  rw [Int64.toInt_add, Int64.toInt_add, Int.bmod_eq_of_le (n := x.toInt + y.toInt) (by omega) (by omega), Int.bmod_eq_of_le (by omega) (by omega)]
theorem nonneg64 {x : Int64} (h : 0 ≤ x.toInt) : 0 ≤ x := by
  rw [Int64.le_iff_toInt_le]
  exact h
section DR
variable {sh nu : Nat → Int64} {s : Nat → Nat → Int64} {gp : Nat → Int32} {d lt cn : Nat}
theorem dr_nu (h : dRel sh nu s gp d lt cn) {j : Nat} (hj : j < cn) (hg : gp (slF lt j) = 0) : nuF sh d (cn - 1 - j) = nu (slF lt j) ∧ 0 ≤ (nu (slF lt j)).toInt ∧ (nu (slF lt j)).toInt ≤ 3000000000000 := by
  obtain ⟨h1, h2⟩ := h j hj
  rcases h1 with ⟨h3, -⟩ | ⟨-, h3⟩
  · exact absurd hg h3
  · obtain ⟨a0, b0⟩ := h3 0 (by omega)
    obtain ⟨a1, b1⟩ := h3 1 (by omega)
    obtain ⟨a2, b2⟩ := h3 2 (by omega)
    rw [Nat.add_zero] at a0
    have e : nu (slF lt j) = s 0 (slF lt j) + s 1 (slF lt j) + s 2 (slF lt j) := by rw [h2, Int64.zero_add]
    have e2 := okV_sum b0 b1 b2
    refine ⟨?_, ?_, ?_⟩
    · unfold nuF
      rw [a0, a1, a2, if_pos (nonneg64 b0.1), e]
    · rw [e, e2]
      have := b0.1
      have := b1.1
      have := b2.1
      omega
    · rw [e, e2]
      have := b0.2
      have := b1.2
      have := b2.2
      omega
theorem dr_gap (h : dRel sh nu s gp d lt cn) {j : Nat} (hj : j < cn) (hg : ¬ gp (slF lt j) = 0) : nuF sh d (cn - 1 - j) = -1 := by
  obtain ⟨h1, h2⟩ := h j hj
  rcases h1 with ⟨-, h3⟩ | ⟨h3, -⟩
  · have a0 := h3 0 (by omega)
    rw [Nat.add_zero] at a0
    unfold nuF
    rw [a0, if_neg (by decide)]
  · exact absurd h3 hg
theorem dr_iff (h : dRel sh nu s gp d lt cn) {j : Nat} (hj : j < cn) : 0 ≤ nuF sh d (cn - 1 - j) ↔ gp (slF lt j) = 0 := by
  by_cases hg : gp (slF lt j) = 0
  · obtain ⟨e1, e2, -⟩ := dr_nu h hj hg
    rw [e1]
    exact ⟨fun _ => hg, fun _ => nonneg64 e2⟩
  · rw [dr_gap h hj hg]
    exact ⟨fun q => absurd q (by decide), fun q => absurd q hg⟩
theorem told_ok (h : dRel sh nu s gp d lt cn) : toldF sh d cn = wiF gp lt 0 cn := by
  show natA (fun k => if 0 ≤ nuF sh d k then 1 else 0) cn = natA (fun k => if gp (slF lt (0 + k)) = 0 then 1 else 0) cn
  rw [natA_rev]
  refine natA_congr cn (fun k hk => ?_)
  rw [Nat.zero_add]
  by_cases hg : gp (slF lt k) = 0
  · rw [if_pos hg, if_pos ((dr_iff h hk).mpr hg)]
  · rw [if_neg hg, if_neg (fun q => hg ((dr_iff h hk).mp q))]
theorem sum_ok (h : dRel sh nu s gp d lt cn) : sumF sh d cn = siF nu gp lt 0 cn := by
  show accA (fun k => if 0 ≤ nuF sh d k then nuF sh d k else 0) cn 0 = accA (fun k => if gp (slF lt (0 + k)) = 0 then nu (slF lt (0 + k)) else 0) cn 0
  rw [accA_rev]
  refine accA_congr2 cn (fun k hk => ?_)
  rw [Nat.zero_add]
  by_cases hg : gp (slF lt k) = 0
  · rw [if_pos hg, if_pos ((dr_iff h hk).mpr hg), (dr_nu h hk hg).1]
  · rw [if_neg hg, if_neg (fun q => hg ((dr_iff h hk).mp q))]
end DR
