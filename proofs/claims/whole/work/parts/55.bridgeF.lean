/-! ===== bridges: rolling means, the law, the cheapest cuts ===== -/
def mxA (g : Nat → Int) (n : Nat) : Int := zfold (fun k t => max t (g k)) n (-4)
theorem mxA_s (g : Nat → Int) (n : Nat) : mxA g (n + 1) = max (mxA g n) (g n) := rfl
theorem mxA_ge (g : Nat → Int) : ∀ n, -4 ≤ mxA g n
  | 0 => Int.le_refl _
  | n + 1 => by
    have := mxA_ge g n
    rw [mxA_s]
    omega
theorem mxA_front (g : Nat → Int) : ∀ n, mxA g (n + 1) = max (mxA (fun k => g (k + 1)) n) (g 0)
  | 0 => rfl
  | n + 1 => by
    rw [mxA_s, mxA_front g n, mxA_s]
    omega
theorem mxA_congr {f h : Nat → Int} : ∀ n, (∀ k, k < n → f k = h k) → mxA f n = mxA h n
  | 0, _ => rfl
  | n + 1, e => by rw [mxA_s, mxA_s, mxA_congr n (fun k hk => e k (by omega)), e n (by omega)]
theorem mxA_rev (f : Nat → Int) : ∀ n, mxA f n = mxA (fun k => f (n - 1 - k)) n
  | 0 => rfl
  | n + 1 => by
    rw [mxA_front (fun k => f (n + 1 - 1 - k)) n, mxA_s, mxA_rev f n, mxA_congr (f := fun k => f (n + 1 - 1 - (k + 1))) (h := fun k => f (n - 1 - k)) n (fun k hk => by rw [show n + 1 - 1 - (k + 1) = n - 1 - k by omega])]
    show _ = max _ (f (n + 1 - 1 - 0))
    rw [show n + 1 - 1 - 0 = n by omega]
def rlG (sh : Nat → Int64) (d wn f : Nat) : Int := if wn ≤ 2 * cnF sh d f wn then (wsF sh d f wn / lN (cnF sh d f wn)).toInt else -4
theorem rl_mx (sh : Nat → Int64) (d wn : Nat) : ∀ n, (rlF sh d wn n).toInt = mxA (rlG sh d wn) n
  | 0 => by
    show (-4 : Int64).toInt = -4
    decide +kernel
  | n + 1 => by
    have ih := rl_mx sh d wn n
    have hg := mxA_ge (rlG sh d wn) n
    rw [rlF_s, mxA_s, ← ih]
    rw [← ih] at hg
    unfold rlT rlG
    by_cases h1 : wn ≤ 2 * cnF sh d n wn
    · rw [if_pos h1]
      by_cases h2 : rlF sh d wn n < wsF sh d n wn / lN (cnF sh d n wn)
      · rw [if_pos ⟨h1, h2⟩]
        rw [Int64.lt_iff_toInt_lt] at h2
        omega
      · rw [if_neg (fun q => h2 q.2)]
        rw [Int64.lt_iff_toInt_lt] at h2
        omega
    · rw [if_neg h1, if_neg (fun q => h1 q.1)]
      omega
def gmG (nu : Nat → Int64) (gp : Nat → Int32) (lt wn f : Nat) : Int := if wn ≤ 2 * wiF gp lt f wn then (siF nu gp lt f wn / lN (wiF gp lt f wn)).toInt else -4
theorem gm_mx (nu : Nat → Int64) (gp : Nat → Int32) (lt wn : Nat) (hw : 1 ≤ wn) : ∀ n, (gmF nu gp lt wn n).toInt = mxA (gmG nu gp lt wn) n
  | 0 => by
    show (-4 : Int64).toInt = -4
    decide +kernel
  | n + 1 => by
    have ih := gm_mx nu gp lt wn hw n
    have hg := mxA_ge (gmG nu gp lt wn) n
    rw [gmF_s, mxA_s, ← ih]
    rw [← ih] at hg
    unfold gmT gmG
    by_cases h1 : wn ≤ 2 * wiF gp lt n wn
    · rw [if_pos h1, if_pos ⟨by omega, by omega⟩]
      by_cases h2 : siF nu gp lt n wn / lN (wiF gp lt n wn) ≤ gmF nu gp lt wn n
      · rw [if_pos h2]
        rw [Int64.le_iff_toInt_le] at h2
        omega
      · rw [if_neg h2]
        rw [Int64.le_iff_toInt_le] at h2
        omega
    · rw [if_neg h1, if_neg (fun q => h1 (by omega))]
      omega
section RL
variable {sh nu : Nat → Int64} {s : Nat → Nat → Int64} {gp : Nat → Int32} {d lt cn : Nat}
theorem win_ok (h : dRel sh nu s gp d lt cn) {wn f : Nat} (hw : f + wn ≤ cn) : wiF gp lt f wn = cnF sh d (cn - wn - f) wn ∧ siF nu gp lt f wn = wsF sh d (cn - wn - f) wn := by
  constructor
  · show natA (fun k => if gp (slF lt (f + k)) = 0 then 1 else 0) wn = natA (fun k => if 0 ≤ nuF sh d (cn - wn - f + k) then 1 else 0) wn
    rw [natA_rev (fun k => if 0 ≤ nuF sh d (cn - wn - f + k) then 1 else 0)]
    refine natA_congr wn (fun k hk => ?_)
    have hi := dr_iff h (j := f + k) (by omega)
    rw [show cn - wn - f + (wn - 1 - k) = cn - 1 - (f + k) by omega]
    by_cases hg : gp (slF lt (f + k)) = 0
    · rw [if_pos hg, if_pos (hi.mpr hg)]
    · rw [if_neg hg, if_neg (fun q => hg (hi.mp q))]
  · show accA (fun k => if gp (slF lt (f + k)) = 0 then nu (slF lt (f + k)) else 0) wn 0 = accA (fun k => if 0 ≤ nuF sh d (cn - wn - f + k) then nuF sh d (cn - wn - f + k) else 0) wn 0
    rw [accA_rev (fun k => if 0 ≤ nuF sh d (cn - wn - f + k) then nuF sh d (cn - wn - f + k) else 0)]
    refine accA_congr2 wn (fun k hk => ?_)
    have hi := dr_iff h (j := f + k) (by omega)
    rw [show cn - wn - f + (wn - 1 - k) = cn - 1 - (f + k) by omega]
    by_cases hg : gp (slF lt (f + k)) = 0
    · rw [if_pos hg, if_pos (hi.mpr hg), (dr_nu h (by omega) hg).1]
    · rw [if_neg hg, if_neg (fun q => hg (hi.mp q))]
theorem roll_ok (h : dRel sh nu s gp d lt cn) {wn : Nat} (hw : 1 ≤ wn) : gmF nu gp lt wn (cn + 1 - wn) = rlF sh d wn (cn + 1 - wn) := by
  rw [← Int64.toInt_inj, gm_mx nu gp lt wn hw, rl_mx, mxA_rev (rlG sh d wn)]
  refine mxA_congr _ (fun k hk => ?_)
  obtain ⟨e1, e2⟩ := win_ok h (wn := wn) (f := k) (by omega)
  show gmG nu gp lt wn k = rlG sh d wn (cn + 1 - wn - 1 - k)
  unfold gmG rlG
  rw [show cn + 1 - wn - 1 - k = cn - wn - k by omega, e1, e2]
/-! the law at a door -/
theorem ab_ok (h : dRel sh nu s gp d lt cn) {t : Nat → Int32} {lim l0 l1 l2 : Int32} (e0 : l0 = nI 10 - t 0) (e1 : l1 = nI 10 - t 1) (e2 : l2 = nI 10 - t 2) : aaF (s 0) (s 1) (s 2) gp lt (lim.toInt64 * 10) l0 l1 l2 cn = abF sh t lim d cn := by
  subst e0
  subst e1
  subst e2
  show natA (fun k => if gp (slF lt k) = 0 ∧ lim.toInt64 * 10 < ttF (s 0) (s 1) (s 2) (nI 10 - t 0) (nI 10 - t 1) (nI 10 - t 2) (slF lt k) then 1 else 0) cn = natA (fun k => if 0 ≤ sh (300 * d + 3 * k) ∧ 10 * lim.toInt64 < s3F sh t (300 * d + 3 * k) 3 then 1 else 0) cn
  rw [natA_rev (fun k => if 0 ≤ sh (300 * d + 3 * k) ∧ 10 * lim.toInt64 < s3F sh t (300 * d + 3 * k) 3 then 1 else 0)]
  refine natA_congr cn (fun k hk => ?_)
  rw [Int64.mul_comm 10 lim.toInt64]
  rcases (h k hk).1 with ⟨hg, h3⟩ | ⟨hg, h3⟩
  · have a0 := h3 0 (by omega)
    rw [Nat.add_zero] at a0
    rw [if_neg (fun q => hg q.1), if_neg (fun q => absurd q.1 (by rw [a0]; decide))]
  · have a0 := (h3 0 (by omega)).1
    have a1 := (h3 1 (by omega)).1
    have a2 := (h3 2 (by omega)).1
    have b0 := (h3 0 (by omega)).2
    have hs : s3F sh t (300 * d + 3 * (cn - 1 - k)) 3 = ttF (s 0) (s 1) (s 2) (nI 10 - t 0) (nI 10 - t 1) (nI 10 - t 2) (slF lt k) := by
      rw [s3F_s, s3F_s, s3F_s, a0, a1, a2]
      show 0 + _ + _ + _ = _
      rw [Int64.zero_add]
      rfl
    rw [Nat.add_zero] at a0
    rw [hs]
    by_cases hq : lim.toInt64 * 10 < ttF (s 0) (s 1) (s 2) (nI 10 - t 0) (nI 10 - t 1) (nI 10 - t 2) (slF lt k)
    · rw [if_pos ⟨hg, hq⟩, if_pos ⟨by rw [a0]; exact nonneg64 b0.1, hq⟩]
    · rw [if_neg (fun q => hq q.2), if_neg (fun q => hq q.2)]
theorem okV_mul {x : Int64} {a : Nat} (hx : okV x) (ha : a ≤ 10) : (x * (nI a).toInt64).toInt = x.toInt * a ∧ 0 ≤ x.toInt * (a : Int) ∧ x.toInt * (a : Int) ≤ 10000000000000 := by
  unfold okV at hx
  have p1 : 0 ≤ x.toInt * (a : Int) := Int.mul_nonneg hx.1 (by omega)
  have p3 : x.toInt * (a : Int) ≤ x.toInt * 10 := Int.mul_le_mul_of_nonneg_left (by omega) hx.1
  refine ⟨?_, p1, by omega⟩
  rw [Int64.toInt_mul, Int32.toInt_toInt64, nI_toInt (by omega), Int.bmod_eq_of_le (by omega) (by omega)]
theorem tt_int {x y z : Int64} {a b c : Nat} (hx : okV x) (hy : okV y) (hz : okV z) (ha : a ≤ 10) (hb : b ≤ 10) (hc : c ≤ 10) : (x * (nI a).toInt64 + y * (nI b).toInt64 + z * (nI c).toInt64).toInt = x.toInt * a + y.toInt * b + z.toInt * c := by
  obtain ⟨a1, a2, a3⟩ := okV_mul hx ha
  obtain ⟨b1, b2, b3⟩ := okV_mul hy hb
  obtain ⟨c1, c2, c3⟩ := okV_mul hz hc
  rw [Int64.toInt_add, Int64.toInt_add, a1, b1, c1]
  generalize x.toInt * (a : Int) = A at *
  generalize y.toInt * (b : Int) = B at *
  generalize z.toInt * (c : Int) = C at *
  rw [Int.bmod_eq_of_le (n := A + B) (by omega) (by omega), Int.bmod_eq_of_le (by omega) (by omega)]
theorem tt_le {x y z : Int64} {a b c a' b' c' : Nat} (hx : okV x) (hy : okV y) (hz : okV z) (ha : a ≤ 10) (hb : b ≤ 10) (hc : c ≤ 10) (ea : a' ≤ a) (eb : b' ≤ b) (ec : c' ≤ c) : x * (nI a').toInt64 + y * (nI b').toInt64 + z * (nI c').toInt64 ≤ x * (nI a).toInt64 + y * (nI b).toInt64 + z * (nI c).toInt64 := by
  rw [Int64.le_iff_toInt_le, tt_int hx hy hz ha hb hc, tt_int hx hy hz (Nat.le_trans ea ha) (Nat.le_trans eb hb) (Nat.le_trans ec hc)]
  have p1 : x.toInt * (a' : Int) ≤ x.toInt * (a : Int) := Int.mul_le_mul_of_nonneg_left (by omega) hx.1
  have p2 : y.toInt * (b' : Int) ≤ y.toInt * (b : Int) := Int.mul_le_mul_of_nonneg_left (by omega) hy.1
  have p3 : z.toInt * (c' : Int) ≤ z.toInt * (c : Int) := Int.mul_le_mul_of_nonneg_left (by omega) hz.1
  exact Int.add_le_add (Int.add_le_add p1 p2) p3
/-- fewer tenths left: no more hours above -/
theorem aa_less (h : dRel sh nu s gp d lt cn) {bd : Int64} {l0 l1 l2 m0 m1 m2 : Nat} (b0 : l0 ≤ 10) (b1 : l1 ≤ 10) (b2 : l2 ≤ 10) (e0 : m0 ≤ l0) (e1 : m1 ≤ l1) (e2 : m2 ≤ l2) (n : Nat) : n ≤ cn → aaF (s 0) (s 1) (s 2) gp lt bd (nI m0) (nI m1) (nI m2) n ≤ aaF (s 0) (s 1) (s 2) gp lt bd (nI l0) (nI l1) (nI l2) n := by
  induction n with
  | zero =>
    intro _
    show (0 : Nat) ≤ 0
    exact Nat.le_refl 0
  | succ n ih =>
    intro hn
    have ih := ih (by omega)
    rw [aaF_s, aaF_s]
    rcases (h n (by omega)).1 with ⟨hg, h3⟩ | ⟨hg, h3⟩
    · rw [if_neg (fun q => hg q.1), if_neg (fun q => hg q.1)]
      exact ih
    · have hle : ttF (s 0) (s 1) (s 2) (nI m0) (nI m1) (nI m2) (slF lt n) ≤ ttF (s 0) (s 1) (s 2) (nI l0) (nI l1) (nI l2) (slF lt n) := tt_le (h3 0 (by omega)).2 (h3 1 (by omega)).2 (h3 2 (by omega)).2 b0 b1 b2 e0 e1 e2
      by_cases hq : bd < ttF (s 0) (s 1) (s 2) (nI m0) (nI m1) (nI m2) (slF lt n)
      · rw [if_pos ⟨hg, hq⟩, if_pos ⟨hg, Int64.lt_of_lt_of_le hq hle⟩]
        exact Nat.add_le_add_right ih 1
      · rw [if_neg (fun q => hq q.2)]
        exact Nat.le_trans ih (Nat.le_add_right _ _)
theorem aa_none {bd : Int64} (s0 s1 s2 : Nat → Int64) (hb : 0 ≤ bd) : ∀ n, aaF s0 s1 s2 gp lt bd (nI 0) (nI 0) (nI 0) n = 0
  | 0 => rfl
  | n + 1 => by
    have hz : (nI 0).toInt64 = 0 := by decide +kernel
    rw [aaF_s, aa_none s0 s1 s2 hb n, if_neg (fun q => by
      have q2 := q.2
      unfold ttF at q2
      rw [hz, Int64.mul_zero, Int64.mul_zero, Int64.mul_zero] at q2
      rw [Int64.lt_iff_toInt_lt] at q2
      rw [Int64.le_iff_toInt_le] at hb
      have z1 : (0 + 0 + 0 : Int64).toInt = 0 := by decide +kernel
      have z2 : (0 : Int64).toInt = 0 := rfl
      omega)]
end RL
/-- the first cheapest of two searches over the same is the same -/
theorem best_ok {pr pr' : Nat → Int32} {gd gd' : Nat → Prop} (hpr : ∀ q, q < 3 → zB (pr q) 0 1000) (hp : ∀ q, q < 3 → pr q = pr' q) (hg : ∀ k, k < 1331 → (gd k ↔ gd' k)) (hex : gd 1330) {lc : Int32} {ct bs : Nat → Int32} (hc : cbI pr gd 1331 lc ct) (hb : bsI pr' gd' 1331 bs) {wh : Nat} (hw : wh < 4) : (if wh = 3 then lc else ct wh) = bs wh := by
  have hcs : ∀ k, cst pr k = cst pr' k := fun k => by
    unfold cst
    rw [hp 0 (by omega), hp 1 (by omega), hp 2 (by omega)]
  rcases hc with ⟨-, h1⟩ | ⟨j, j1, j2, j3, j4, j5, j6, j7, j8⟩
  · exact absurd hex (h1 1330 (by omega))
  · rcases hb with ⟨-, h1⟩ | ⟨i, i1, i2, i3, i4, i5, i6, i7, i8⟩
    · exact absurd ((hg 1330 (by omega)).mp hex) (h1 1330 (by omega))
    · have i2' := (hg i i1).mpr i2
      have j2' := (hg j j1).mp j2
      have e : i = j := by
        have a1 := j7 i i1 i2'
        have a2 := i7 j j1 j2'
        rw [← hcs, ← hcs] at a2
        rw [Int32.lt_iff_toInt_lt] at a1 a2
        rcases Nat.lt_trichotomy i j with h | h | h
        · have := j8 i h i2'
          rw [Int32.lt_iff_toInt_lt] at this
          omega
        · exact h
        · have := i8 j h j2'
          rw [← hcs, ← hcs, Int32.lt_iff_toInt_lt] at this
          omega
      subst e
      rcases (show wh = 0 ∨ wh = 1 ∨ wh = 2 ∨ wh = 3 by omega) with h | h | h | h <;> subst h
      · rw [if_neg (by decide), j4, i4]
      · rw [if_neg (by decide), j5, i5]
      · rw [if_neg (by decide), j6, i6]
      · rw [if_pos rfl, j3, i3, hcs]
