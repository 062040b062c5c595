/-! ===== the elimination, on numbers: row i of step k, 9 places of the matrix, 9 of what each box gives ===== -/
def zBT0 : List (List Int) := [[4, -1, 0, -1, 0, 0, 0, 0, 0, 1, 0, 0, 0, 0, 0, 0, 0, 0], [-1, 4, -1, 0, -1, 0, 0, 0, 0, 0, 1, 0, 0, 0, 0, 0, 0, 0], [0, -1, 4, 0, 0, -1, 0, 0, 0, 0, 0, 1, 0, 0, 0, 0, 0, 0], [-1, 0, 0, 4, -1, 0, -1, 0, 0, 0, 0, 0, 1, 0, 0, 0, 0, 0], [0, -1, 0, -1, 4, -1, 0, -1, 0, 0, 0, 0, 0, 1, 0, 0, 0, 0], [0, 0, -1, 0, -1, 4, 0, 0, -1, 0, 0, 0, 0, 0, 1, 0, 0, 0], [0, 0, 0, -1, 0, 0, 4, -1, 0, 0, 0, 0, 0, 0, 0, 1, 0, 0], [0, 0, 0, 0, -1, 0, -1, 4, -1, 0, 0, 0, 0, 0, 0, 0, 1, 0], [0, 0, 0, 0, 0, -1, 0, -1, 4, 0, 0, 0, 0, 0, 0, 0, 0, 1]]
def zBT1 : List (List Int) := [[4, -1, 0, -1, 0, 0, 0, 0, 0, 1, 0, 0, 0, 0, 0, 0, 0, 0], [0, 15, -4, -1, -4, 0, 0, 0, 0, 1, 4, 0, 0, 0, 0, 0, 0, 0], [0, -4, 16, 0, 0, -4, 0, 0, 0, 0, 0, 4, 0, 0, 0, 0, 0, 0], [0, -1, 0, 15, -4, 0, -4, 0, 0, 1, 0, 0, 4, 0, 0, 0, 0, 0], [0, -4, 0, -4, 16, -4, 0, -4, 0, 0, 0, 0, 0, 4, 0, 0, 0, 0], [0, 0, -4, 0, -4, 16, 0, 0, -4, 0, 0, 0, 0, 0, 4, 0, 0, 0], [0, 0, 0, -4, 0, 0, 16, -4, 0, 0, 0, 0, 0, 0, 0, 4, 0, 0], [0, 0, 0, 0, -4, 0, -4, 16, -4, 0, 0, 0, 0, 0, 0, 0, 4, 0], [0, 0, 0, 0, 0, -4, 0, -4, 16, 0, 0, 0, 0, 0, 0, 0, 0, 4]]
def zBT2 : List (List Int) := [[15, 0, -1, -4, -1, 0, 0, 0, 0, 4, 1, 0, 0, 0, 0, 0, 0, 0], [0, 15, -4, -1, -4, 0, 0, 0, 0, 1, 4, 0, 0, 0, 0, 0, 0, 0], [0, 0, 56, -1, -4, -15, 0, 0, 0, 1, 4, 15, 0, 0, 0, 0, 0, 0], [0, 0, -1, 56, -16, 0, -15, 0, 0, 4, 1, 0, 15, 0, 0, 0, 0, 0], [0, 0, -4, -16, 56, -15, 0, -15, 0, 1, 4, 0, 0, 15, 0, 0, 0, 0], [0, 0, -15, 0, -15, 60, 0, 0, -15, 0, 0, 0, 0, 0, 15, 0, 0, 0], [0, 0, 0, -15, 0, 0, 60, -15, 0, 0, 0, 0, 0, 0, 0, 15, 0, 0], [0, 0, 0, 0, -15, 0, -15, 60, -15, 0, 0, 0, 0, 0, 0, 0, 15, 0], [0, 0, 0, 0, 0, -15, 0, -15, 60, 0, 0, 0, 0, 0, 0, 0, 0, 15]]
def zBT3 : List (List Int) := [[56, 0, 0, -15, -4, -1, 0, 0, 0, 15, 4, 1, 0, 0, 0, 0, 0, 0], [0, 56, 0, -4, -16, -4, 0, 0, 0, 4, 16, 4, 0, 0, 0, 0, 0, 0], [0, 0, 56, -1, -4, -15, 0, 0, 0, 1, 4, 15, 0, 0, 0, 0, 0, 0], [0, 0, 0, 209, -60, -1, -56, 0, 0, 15, 4, 1, 56, 0, 0, 0, 0, 0], [0, 0, 0, -60, 208, -60, 0, -56, 0, 4, 16, 4, 0, 56, 0, 0, 0, 0], [0, 0, 0, -1, -60, 209, 0, 0, -56, 1, 4, 15, 0, 0, 56, 0, 0, 0], [0, 0, 0, -56, 0, 0, 224, -56, 0, 0, 0, 0, 0, 0, 0, 56, 0, 0], [0, 0, 0, 0, -56, 0, -56, 224, -56, 0, 0, 0, 0, 0, 0, 0, 56, 0], [0, 0, 0, 0, 0, -56, 0, -56, 224, 0, 0, 0, 0, 0, 0, 0, 0, 56]]
def zBT4 : List (List Int) := [[209, 0, 0, 0, -31, -4, -15, 0, 0, 60, 16, 4, 15, 0, 0, 0, 0, 0], [0, 209, 0, 0, -64, -15, -4, 0, 0, 16, 60, 15, 4, 0, 0, 0, 0, 0], [0, 0, 209, 0, -16, -56, -1, 0, 0, 4, 15, 56, 1, 0, 0, 0, 0, 0], [0, 0, 0, 209, -60, -1, -56, 0, 0, 15, 4, 1, 56, 0, 0, 0, 0, 0], [0, 0, 0, 0, 712, -225, -60, -209, 0, 31, 64, 16, 60, 209, 0, 0, 0, 0], [0, 0, 0, 0, -225, 780, -1, 0, -209, 4, 15, 56, 1, 0, 209, 0, 0, 0], [0, 0, 0, 0, -60, -1, 780, -209, 0, 15, 4, 1, 56, 0, 0, 209, 0, 0], [0, 0, 0, 0, -209, 0, -209, 836, -209, 0, 0, 0, 0, 0, 0, 0, 209, 0], [0, 0, 0, 0, 0, -209, 0, -209, 836, 0, 0, 0, 0, 0, 0, 0, 0, 209]]
def zBT5 : List (List Int) := [[712, 0, 0, 0, 0, -47, -60, -31, 0, 209, 64, 16, 60, 31, 0, 0, 0, 0], [0, 712, 0, 0, 0, -120, -32, -64, 0, 64, 224, 56, 32, 64, 0, 0, 0, 0], [0, 0, 712, 0, 0, -208, -8, -16, 0, 16, 56, 192, 8, 16, 0, 0, 0, 0], [0, 0, 0, 712, 0, -68, -208, -60, 0, 60, 32, 8, 208, 60, 0, 0, 0, 0], [0, 0, 0, 0, 712, -225, -60, -209, 0, 31, 64, 16, 60, 209, 0, 0, 0, 0], [0, 0, 0, 0, 0, 2415, -68, -225, -712, 47, 120, 208, 68, 225, 712, 0, 0, 0], [0, 0, 0, 0, 0, -68, 2640, -772, 0, 60, 32, 8, 208, 60, 0, 712, 0, 0], [0, 0, 0, 0, 0, -225, -772, 2639, -712, 31, 64, 16, 60, 209, 0, 0, 712, 0], [0, 0, 0, 0, 0, -712, 0, -712, 2848, 0, 0, 0, 0, 0, 0, 0, 0, 712]]
def zBT6 : List (List Int) := [[2415, 0, 0, 0, 0, 0, -208, -120, -47, 712, 225, 68, 208, 120, 47, 0, 0, 0], [0, 2415, 0, 0, 0, 0, -120, -255, -120, 225, 780, 225, 120, 255, 120, 0, 0, 0], [0, 0, 2415, 0, 0, 0, -47, -120, -208, 68, 225, 712, 47, 120, 208, 0, 0, 0], [0, 0, 0, 2415, 0, 0, -712, -225, -68, 208, 120, 47, 712, 225, 68, 0, 0, 0], [0, 0, 0, 0, 2415, 0, -225, -780, -225, 120, 255, 120, 225, 780, 225, 0, 0, 0], [0, 0, 0, 0, 0, 2415, -68, -225, -712, 47, 120, 208, 68, 225, 712, 0, 0, 0], [0, 0, 0, 0, 0, 0, 8948, -2640, -68, 208, 120, 47, 712, 225, 68, 2415, 0, 0], [0, 0, 0, 0, 0, 0, -2640, 8880, -2640, 120, 255, 120, 225, 780, 225, 0, 2415, 0], [0, 0, 0, 0, 0, 0, -68, -2640, 8948, 47, 120, 208, 68, 225, 712, 0, 0, 2415]]
def zBT7 : List (List Int) := [[8948, 0, 0, 0, 0, 0, 0, -672, -180, 2656, 844, 256, 832, 464, 180, 208, 0, 0], [0, 8948, 0, 0, 0, 0, 0, -1076, -448, 844, 2896, 836, 480, 956, 448, 120, 0, 0], [0, 0, 8948, 0, 0, 0, 0, -496, -772, 256, 836, 2639, 188, 449, 772, 47, 0, 0], [0, 0, 0, 8948, 0, 0, 0, -1612, -272, 832, 480, 188, 2848, 900, 272, 712, 0, 0], [0, 0, 0, 0, 8948, 0, 0, -3136, -840, 464, 956, 449, 900, 2911, 840, 225, 0, 0], [0, 0, 0, 0, 0, 8948, 0, -908, -2640, 180, 448, 772, 272, 840, 2640, 68, 0, 0], [0, 0, 0, 0, 0, 0, 8948, -2640, -68, 208, 120, 47, 712, 225, 68, 2415, 0, 0], [0, 0, 0, 0, 0, 0, 0, 30016, -9856, 672, 1076, 496, 1612, 3136, 908, 2640, 8948, 0], [0, 0, 0, 0, 0, 0, 0, -9856, 33152, 180, 448, 772, 272, 840, 2640, 68, 0, 8948]]
def zBT8 : List (List Int) := [[30016, 0, 0, 0, 0, 0, 0, 0, -1344, 8960, 2912, 896, 2912, 1792, 672, 896, 672, 0], [0, 30016, 0, 0, 0, 0, 0, 0, -2688, 2912, 9844, 2864, 1804, 3584, 1612, 720, 1076, 0], [0, 0, 30016, 0, 0, 0, 0, 0, -3136, 896, 2864, 8880, 720, 1680, 2640, 304, 496, 0], [0, 0, 0, 30016, 0, 0, 0, 0, -2688, 2912, 1804, 720, 9844, 3584, 1076, 2864, 1612, 0], [0, 0, 0, 0, 30016, 0, 0, 0, -6272, 1792, 3584, 1680, 3584, 10864, 3136, 1680, 3136, 0], [0, 0, 0, 0, 0, 30016, 0, 0, -9856, 672, 1612, 2640, 1076, 3136, 8948, 496, 908, 0], [0, 0, 0, 0, 0, 0, 30016, 0, -3136, 896, 720, 304, 2864, 1680, 496, 8880, 2640, 0], [0, 0, 0, 0, 0, 0, 0, 30016, -9856, 672, 1076, 496, 1612, 3136, 908, 2640, 8948, 0], [0, 0, 0, 0, 0, 0, 0, 0, 100352, 1344, 2688, 3136, 2688, 6272, 9856, 3136, 9856, 30016]]
def zBT9 : List (List Int) := [[100352, 0, 0, 0, 0, 0, 0, 0, 0, 30016, 9856, 3136, 9856, 6272, 2688, 3136, 2688, 1344], [0, 100352, 0, 0, 0, 0, 0, 0, 0, 9856, 33152, 9856, 6272, 12544, 6272, 2688, 4480, 2688], [0, 0, 100352, 0, 0, 0, 0, 0, 0, 3136, 9856, 30016, 2688, 6272, 9856, 1344, 2688, 3136], [0, 0, 0, 100352, 0, 0, 0, 0, 0, 9856, 6272, 2688, 33152, 12544, 4480, 9856, 6272, 2688], [0, 0, 0, 0, 100352, 0, 0, 0, 0, 6272, 12544, 6272, 12544, 37632, 12544, 6272, 12544, 6272], [0, 0, 0, 0, 0, 100352, 0, 0, 0, 2688, 6272, 9856, 4480, 12544, 33152, 2688, 6272, 9856], [0, 0, 0, 0, 0, 0, 100352, 0, 0, 3136, 2688, 1344, 9856, 6272, 2688, 30016, 9856, 3136], [0, 0, 0, 0, 0, 0, 0, 100352, 0, 2688, 4480, 2688, 6272, 12544, 6272, 9856, 33152, 9856], [0, 0, 0, 0, 0, 0, 0, 0, 100352, 1344, 2688, 3136, 2688, 6272, 9856, 3136, 9856, 30016]]
def zBT (k i j : Nat) : Int := ((match k with | 0 => zBT0 | 1 => zBT1 | 2 => zBT2 | 3 => zBT3 | 4 => zBT4 | 5 => zBT5 | 6 => zBT6 | 7 => zBT7 | 8 => zBT8 | _ => zBT9).getD i []).getD j 0
def zBD (k : Nat) : Int := [1, 4, 15, 56, 209, 712, 2415, 8948, 30016, 100352].getD k 1
theorem zBT_step : ∀ k, k < 9 → ∀ i, i < 9 → i ≠ k → ∀ j, j < 18 → zBT k k k * zBT k i j - zBT k i k * zBT k k j = zBD k * zBT (k + 1) i j := by decide +kernel
theorem zBT_row : ∀ k, k < 9 → ∀ j, j < 18 → zBT (k + 1) k j = zBT k k j := by decide +kernel
theorem zBT_piv : ∀ k, k < 9 → zBT k k k = zBD (k + 1) := by decide +kernel
theorem zBD_pos : ∀ k, k < 10 → 0 < zBD k ∧ zBD k ≤ 110000 := by decide +kernel
theorem zBT_le : ∀ k, k < 10 → ∀ i, i < 9 → ∀ j, j < 18 → -110000 ≤ zBT k i j ∧ zBT k i j ≤ 110000 := by decide +kernel
theorem zBT_last : ∀ i, i < 9 → ∀ t, t < 9 → zBT 9 i (9 + t) = 448 * (zFALL.getD (9 * t + i) 0 : Nat) := by decide +kernel
/-- a sum of nine -/
def zS9 (f : Nat → Int) : Int := f 0 + f 1 + f 2 + f 3 + f 4 + f 5 + f 6 + f 7 + f 8
theorem zS9_congr {f h : Nat → Int} (e : ∀ t, t < 9 → f t = h t) : zS9 f = zS9 h := by
  unfold zS9
  rw [e 0 (by decide), e 1 (by decide), e 2 (by decide), e 3 (by decide), e 4 (by decide), e 5 (by decide), e 6 (by decide), e 7 (by decide), e 8 (by decide)]
/-- place q of row i at step k, what each box gives being g -/
def zVI (g : Nat → Int) (k i q : Nat) : Int := if q < 9 then zBT k i q else zS9 (fun t => zBT k i (9 + t) * g t)
def zV (g : Nat → Int) (k i q : Nat) : Int64 := Int64.ofInt (zVI g k i q)
theorem zmul_le {x y : Int} {a b : Int} (hx : -a ≤ x ∧ x ≤ a) (hy : -b ≤ y ∧ y ≤ b) (ha : 0 ≤ a) (hb : 0 ≤ b) : -(a * b) ≤ x * y ∧ x * y ≤ a * b := by
  have h1 : (x * y).natAbs ≤ (a * b).natAbs := by
    rw [Int.natAbs_mul, Int.natAbs_mul]
    exact Nat.mul_le_mul (by omega) (by omega)
  have h2 : 0 ≤ a * b := Int.mul_nonneg ha hb
  omega
theorem zVI_le {g : Nat → Int} (hg : ∀ t, t < 9 → -2400 ≤ g t ∧ g t ≤ 2400) {k i q : Nat} (hk : k < 10) (hi : i < 9) (hq : q < 10) : -2376000000 ≤ zVI g k i q ∧ zVI g k i q ≤ 2376000000 := by
  unfold zVI
  split
  · have := zBT_le k hk i hi q (by omega)
    omega
  · have h : ∀ t, t < 9 → -264000000 ≤ zBT k i (9 + t) * g t ∧ zBT k i (9 + t) * g t ≤ 264000000 := fun t ht => by
      have h1 := zBT_le k hk i hi (9 + t) (by omega)
      have h2 := zmul_le (a := 110000) (b := 2400) h1 (hg t ht) (by decide) (by decide)
      omega
    have h0 := h 0 (by omega)
    have h1 := h 1 (by omega)
    have h2 := h 2 (by omega)
    have h3 := h 3 (by omega)
    have h4 := h 4 (by omega)
    have h5 := h 5 (by omega)
    have h6 := h 6 (by omega)
    have h7 := h 7 (by omega)
    have h8 := h 8 (by omega)
    dsimp only [zS9]
    omega
theorem zVI_step (g : Nat → Int) {k i q : Nat} (hk : k < 9) (hi : i < 9) (hne : i ≠ k) (hq : q < 10) : zBT k k k * zVI g k i q - zBT k i k * zVI g k k q = zBD k * zVI g (k + 1) i q := by
  unfold zVI
  by_cases h : q < 9
  · rw [if_pos h, if_pos h, if_pos h]
    exact zBT_step k hk i hi hne q (by omega)
  · rw [if_neg h, if_neg h, if_neg h]
    have hs : ∀ t, t < 9 → zBT k k k * (zBT k i (9 + t) * g t) - zBT k i k * (zBT k k (9 + t) * g t) = zBD k * (zBT (k + 1) i (9 + t) * g t) := fun t ht => by
      have := zBT_step k hk i hi hne (9 + t) (by omega)
      rw [← Int.mul_assoc, ← Int.mul_assoc, ← Int.mul_assoc, ← Int.sub_mul, this]
    have h0 := hs 0 (by omega)
    have h1 := hs 1 (by omega)
    have h2 := hs 2 (by omega)
    have h3 := hs 3 (by omega)
    have h4 := hs 4 (by omega)
    have h5 := hs 5 (by omega)
    have h6 := hs 6 (by omega)
    have h7 := hs 7 (by omega)
    have h8 := hs 8 (by omega)
    dsimp only [zS9]
    simp only [Int.mul_add]
    omega
theorem zL_ofInt {x : Int} (h1 : -9223372036854775808 ≤ x) (h2 : x < 9223372036854775808) : (Int64.ofInt x).toInt = x := Int64.toInt_ofInt_of_le h1 h2
theorem zL_mul {x y : Int} : Int64.ofInt x * Int64.ofInt y = Int64.ofInt (x * y) := (Int64.ofInt_mul x y).symm
theorem zL_sub {x y : Int} : Int64.ofInt x - Int64.ofInt y = Int64.ofInt (x - y) := (Int64.ofInt_sub x y).symm
theorem zL_add {x y : Int} : Int64.ofInt x + Int64.ofInt y = Int64.ofInt (x + y) := (Int64.ofInt_add x y).symm
theorem zL_eq {x : Int64} {y : Int} (h : x.toInt = y) : x = Int64.ofInt y := by rw [← h, Int64.ofInt_toInt]
theorem zL_tdiv {x y : Int} (hx1 : -9223372036854775808 < x) (hx2 : x < 9223372036854775808) (hy1 : 0 < y) (hy2 : y < 9223372036854775808) : Int64.ofInt x / Int64.ofInt y = Int64.ofInt (x.tdiv y) := by
  apply zL_eq
  rw [Int64.toInt_div, zL_ofInt (by omega) hx2, zL_ofInt (by omega) hy2]
  have h := Int.natAbs_tdiv_le_natAbs x y
  apply Int.bmod_eq_of_le <;> omega
theorem zV_step {g : Nat → Int} (hg : ∀ t, t < 9 → -2400 ≤ g t ∧ g t ≤ 2400) {k i q : Nat} (hk : k < 9) (hi : i < 9) (hne : i ≠ k) (hq : q < 10) : (zV g k k k * zV g k i q - zV g k i k * zV g k k q) / Int64.ofInt (zBD k) = zV g (k + 1) i q := by
  unfold zV
  rw [zL_mul, zL_mul, zL_sub]
  have e1 : zVI g k k k = zBT k k k := if_pos hk
  have e2 : zVI g k i k = zBT k i k := if_pos hk
  rw [e1, e2, zVI_step g hk hi hne hq]
  have hb := zVI_le hg (k := k + 1) (i := i) (q := q) (by omega) hi hq
  have hd := zBD_pos k (by omega)
  have hm := zmul_le (x := zBD k) (y := zVI g (k + 1) i q) (a := 110000) (b := 2376000000) (by omega) hb (by decide) (by decide)
  rw [zL_tdiv (by omega) (by omega) (by omega) (by omega)]
  rw [Int.mul_tdiv_cancel_left _ (by omega)]
theorem zV_row (g : Nat → Int) {k q : Nat} (hk : k < 9) (hq : q < 10) : zV g (k + 1) k q = zV g k k q := by
  unfold zV zVI
  split
  · rw [zBT_row k hk q (by omega)]
  · congr 1
    exact zS9_congr (fun t ht => by rw [zBT_row k hk (9 + t) (by omega)])
theorem zV_piv (g : Nat → Int) {k : Nat} (hk : k < 9) : zV g k k k = Int64.ofInt (zBD (k + 1)) := by
  unfold zV zVI
  rw [if_pos hk, zBT_piv k hk]
theorem zBD_ne {k : Nat} (hk : k < 10) : ¬ Int64.ofInt (zBD k) = 0 := by
  intro h
  have hd := zBD_pos k hk
  have h2 := congrArg Int64.toInt h
  rw [zL_ofInt (by omega) (by omega)] at h2
  have h3 : (0 : Int64).toInt = 0 := rfl
  omega
