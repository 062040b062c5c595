/-! ===== bounds: the still net ===== -/
def WI (wn : Nat → Int32) (k : Nat) : Int := (wn k).toInt
def gI (W : Nat → Int) (t : Nat) : Int := W (t + t / 3) - W (t + t / 3 + 1) + W (12 + t) - W (12 + t + 3)
def hI (W : Nat → Int) (q : Nat) : Int := if q < 9 then zS9 (fun t => zBT 9 q (9 + t) * gI W t) else 0
def sI (W : Nat → Int) (k : Nat) : Int := 100352 * W k + hI W (zFROM.getD k 0) - hI W (zTO.getD k 0)
theorem gI_le {W : Nat → Int} (hW : ∀ k, k < 24 → -100 ≤ W k ∧ W k ≤ 100) {t : Nat} (ht : t < 9) : -400 ≤ gI W t ∧ gI W t ≤ 400 := by
  have h1 := hW (t + t / 3) (by omega)
  have h2 := hW (t + t / 3 + 1) (by omega)
  have h3 := hW (12 + t) (by omega)
  have h4 := hW (12 + t + 3) (by omega)
  unfold gI
  omega
theorem WI_le {wn : Nat → Int32} (hw : ∀ k, k < 24 → zB (wn k) (-100) 100) : ∀ k, k < 24 → -100 ≤ WI wn k ∧ WI wn k ≤ 100 := fun k hk => hw k hk
theorem gG_int {wn : Nat → Int32} (hw : ∀ k, k < 24 → zB (wn k) (-100) 100) {t : Nat} (ht : t < 9) : gG wn t = gI (WI wn) t := by
  have h1 := hw (t + t / 3) (by omega)
  have h2 := hw (t + t / 3 + 1) (by omega)
  have h3 := hw (12 + t) (by omega)
  have h4 := hw (12 + t + 3) (by omega)
  unfold zB at h1 h2 h3 h4
  rw [gG_eq hw, ← sur_give wn ht]
  unfold surF gI WI
  rw [Int32.toInt_sub, Int32.toInt_add, Int32.toInt_sub]
  rw [Int.bmod_eq_of_le (n := (wn (t + t / 3 + 1)).toInt - (wn (t + t / 3)).toInt) (by omega) (by omega), Int.bmod_eq_of_le (n := (wn (t + t / 3 + 1)).toInt - (wn (t + t / 3)).toInt + (wn (12 + t + 3)).toInt) (by omega) (by omega), Int.bmod_eq_of_le (by omega) (by omega)]
  omega
theorem hI_0 (W : Nat → Int) : hI W 0 = 30016 * gI W 0 + 9856 * gI W 1 + 3136 * gI W 2 + 9856 * gI W 3 + 6272 * gI W 4 + 2688 * gI W 5 + 3136 * gI W 6 + 2688 * gI W 7 + 1344 * gI W 8 := rfl
theorem hI_1 (W : Nat → Int) : hI W 1 = 9856 * gI W 0 + 33152 * gI W 1 + 9856 * gI W 2 + 6272 * gI W 3 + 12544 * gI W 4 + 6272 * gI W 5 + 2688 * gI W 6 + 4480 * gI W 7 + 2688 * gI W 8 := rfl
theorem hI_2 (W : Nat → Int) : hI W 2 = 3136 * gI W 0 + 9856 * gI W 1 + 30016 * gI W 2 + 2688 * gI W 3 + 6272 * gI W 4 + 9856 * gI W 5 + 1344 * gI W 6 + 2688 * gI W 7 + 3136 * gI W 8 := rfl
theorem hI_3 (W : Nat → Int) : hI W 3 = 9856 * gI W 0 + 6272 * gI W 1 + 2688 * gI W 2 + 33152 * gI W 3 + 12544 * gI W 4 + 4480 * gI W 5 + 9856 * gI W 6 + 6272 * gI W 7 + 2688 * gI W 8 := rfl
theorem hI_4 (W : Nat → Int) : hI W 4 = 6272 * gI W 0 + 12544 * gI W 1 + 6272 * gI W 2 + 12544 * gI W 3 + 37632 * gI W 4 + 12544 * gI W 5 + 6272 * gI W 6 + 12544 * gI W 7 + 6272 * gI W 8 := rfl
theorem hI_5 (W : Nat → Int) : hI W 5 = 2688 * gI W 0 + 6272 * gI W 1 + 9856 * gI W 2 + 4480 * gI W 3 + 12544 * gI W 4 + 33152 * gI W 5 + 2688 * gI W 6 + 6272 * gI W 7 + 9856 * gI W 8 := rfl
theorem hI_6 (W : Nat → Int) : hI W 6 = 3136 * gI W 0 + 2688 * gI W 1 + 1344 * gI W 2 + 9856 * gI W 3 + 6272 * gI W 4 + 2688 * gI W 5 + 30016 * gI W 6 + 9856 * gI W 7 + 3136 * gI W 8 := rfl
theorem hI_7 (W : Nat → Int) : hI W 7 = 2688 * gI W 0 + 4480 * gI W 1 + 2688 * gI W 2 + 6272 * gI W 3 + 12544 * gI W 4 + 6272 * gI W 5 + 9856 * gI W 6 + 33152 * gI W 7 + 9856 * gI W 8 := rfl
theorem hI_8 (W : Nat → Int) : hI W 8 = 1344 * gI W 0 + 2688 * gI W 1 + 3136 * gI W 2 + 2688 * gI W 3 + 6272 * gI W 4 + 9856 * gI W 5 + 3136 * gI W 6 + 9856 * gI W 7 + 30016 * gI W 8 := rfl
theorem hI_9 (W : Nat → Int) : hI W 9 = 0 := rfl
theorem hI_le {W : Nat → Int} (hW : ∀ k, k < 24 → -100 ≤ W k ∧ W k ≤ 100) (q : Nat) : -2376000000 ≤ hI W q ∧ hI W q ≤ 2376000000 := by
  unfold hI
  by_cases h : q < 9
  · rw [if_pos h]
    exact zVI_le (g := gI W) (fun t ht => by have := gI_le hW ht; omega) (k := 9) (i := q) (q := 9) (by omega) h (by omega)
  · rw [if_neg h]
    omega
theorem HT_int {wn : Nat → Int32} (hw : ∀ k, k < 24 → zB (wn k) (-100) 100) (q : Nat) : (HT wn q).toInt = hI (WI wn) q := by
  have hb := hI_le (WI_le hw) q
  unfold HT
  by_cases h : q < 9
  · rw [if_pos h]
    have e : zVI (gG wn) 9 q 9 = hI (WI wn) q := by
      unfold hI
      rw [if_pos h]
      show zS9 (fun t => zBT 9 q (9 + t) * gG wn t) = _
      unfold zS9
      dsimp only
      rw [gG_int hw (t := 0) (by omega), gG_int hw (t := 1) (by omega), gG_int hw (t := 2) (by omega), gG_int hw (t := 3) (by omega), gG_int hw (t := 4) (by omega), gG_int hw (t := 5) (by omega), gG_int hw (t := 6) (by omega), gG_int hw (t := 7) (by omega), gG_int hw (t := 8) (by omega)]
    unfold zV
    rw [e, zL_ofInt (by omega) (by omega)]
  · rw [if_neg h]
    unfold hI
    rw [if_neg h]
    rfl
theorem st_int {wn : Nat → Int32} (hw : ∀ k, k < 24 → zB (wn k) (-100) 100) {k : Nat} (hk : k < 24) : (stillF wn (HT wn) k).toInt = sI (WI wn) k := by
  have b1 := hI_le (WI_le hw) (zFROM.getD k 0)
  have b2 := hI_le (WI_le hw) (zTO.getD k 0)
  have b3 := hw k hk
  unfold zB at b3
  have hc : (100352 : Int64).toInt = 100352 := by decide +kernel
  unfold stillF sI
  rw [Int64.toInt_sub, Int64.toInt_add, Int64.toInt_mul, Int32.toInt_toInt64, hc, HT_int hw, HT_int hw]
  show _ = 100352 * (wn k).toInt + _ - _
  generalize hI (WI wn) (zFROM.getD k 0) = x at *
  generalize hI (WI wn) (zTO.getD k 0) = y at *
  rw [Int.bmod_eq_of_le (n := 100352 * (wn k).toInt) (by omega) (by omega), Int.bmod_eq_of_le (n := 100352 * (wn k).toInt + x) (by omega) (by omega), Int.bmod_eq_of_le (by omega) (by omega)]
section SB
variable {W : Nat → Int}
theorem sI_0 (hW : ∀ k, k < 24 → -100 ≤ W k ∧ W k ≤ 100) : -50176000 ≤ sI W 0 ∧ sI W 0 ≤ 50176000 := by
  have e : sI W 0 = 100352 * W 0 + hI W 9 - hI W 0 := rfl
  rw [hI_9, hI_0] at e
  have w0 := hW 0 (by omega)
  have g0 := gI_le hW (t := 0) (by omega)
  have g1 := gI_le hW (t := 1) (by omega)
  have g2 := gI_le hW (t := 2) (by omega)
  have g3 := gI_le hW (t := 3) (by omega)
  have g4 := gI_le hW (t := 4) (by omega)
  have g5 := gI_le hW (t := 5) (by omega)
  have g6 := gI_le hW (t := 6) (by omega)
  have g7 := gI_le hW (t := 7) (by omega)
  have g8 := gI_le hW (t := 8) (by omega)
  omega
theorem sI_1 (hW : ∀ k, k < 24 → -100 ≤ W k ∧ W k ≤ 100) : -50176000 ≤ sI W 1 ∧ sI W 1 ≤ 50176000 := by
  have e : sI W 1 = 100352 * W 1 + hI W 0 - hI W 1 := rfl
  rw [hI_0, hI_1] at e
  have w0 := hW 1 (by omega)
  have g0 := gI_le hW (t := 0) (by omega)
  have g1 := gI_le hW (t := 1) (by omega)
  have g2 := gI_le hW (t := 2) (by omega)
  have g3 := gI_le hW (t := 3) (by omega)
  have g4 := gI_le hW (t := 4) (by omega)
  have g5 := gI_le hW (t := 5) (by omega)
  have g6 := gI_le hW (t := 6) (by omega)
  have g7 := gI_le hW (t := 7) (by omega)
  have g8 := gI_le hW (t := 8) (by omega)
  omega
theorem sI_2 (hW : ∀ k, k < 24 → -100 ≤ W k ∧ W k ≤ 100) : -50176000 ≤ sI W 2 ∧ sI W 2 ≤ 50176000 := by
  have e : sI W 2 = 100352 * W 2 + hI W 1 - hI W 2 := rfl
  rw [hI_1, hI_2] at e
  have w0 := hW 2 (by omega)
  have g0 := gI_le hW (t := 0) (by omega)
  have g1 := gI_le hW (t := 1) (by omega)
  have g2 := gI_le hW (t := 2) (by omega)
  have g3 := gI_le hW (t := 3) (by omega)
  have g4 := gI_le hW (t := 4) (by omega)
  have g5 := gI_le hW (t := 5) (by omega)
  have g6 := gI_le hW (t := 6) (by omega)
  have g7 := gI_le hW (t := 7) (by omega)
  have g8 := gI_le hW (t := 8) (by omega)
  omega
theorem sI_3 (hW : ∀ k, k < 24 → -100 ≤ W k ∧ W k ≤ 100) : -50176000 ≤ sI W 3 ∧ sI W 3 ≤ 50176000 := by
  have e : sI W 3 = 100352 * W 3 + hI W 2 - hI W 9 := rfl
  rw [hI_2, hI_9] at e
  have w0 := hW 3 (by omega)
  have g0 := gI_le hW (t := 0) (by omega)
  have g1 := gI_le hW (t := 1) (by omega)
  have g2 := gI_le hW (t := 2) (by omega)
  have g3 := gI_le hW (t := 3) (by omega)
  have g4 := gI_le hW (t := 4) (by omega)
  have g5 := gI_le hW (t := 5) (by omega)
  have g6 := gI_le hW (t := 6) (by omega)
  have g7 := gI_le hW (t := 7) (by omega)
  have g8 := gI_le hW (t := 8) (by omega)
  omega
theorem sI_4 (hW : ∀ k, k < 24 → -100 ≤ W k ∧ W k ≤ 100) : -50176000 ≤ sI W 4 ∧ sI W 4 ≤ 50176000 := by
  have e : sI W 4 = 100352 * W 4 + hI W 9 - hI W 3 := rfl
  rw [hI_9, hI_3] at e
  have w0 := hW 4 (by omega)
  have g0 := gI_le hW (t := 0) (by omega)
  have g1 := gI_le hW (t := 1) (by omega)
  have g2 := gI_le hW (t := 2) (by omega)
  have g3 := gI_le hW (t := 3) (by omega)
  have g4 := gI_le hW (t := 4) (by omega)
  have g5 := gI_le hW (t := 5) (by omega)
  have g6 := gI_le hW (t := 6) (by omega)
  have g7 := gI_le hW (t := 7) (by omega)
  have g8 := gI_le hW (t := 8) (by omega)
  omega
theorem sI_5 (hW : ∀ k, k < 24 → -100 ≤ W k ∧ W k ≤ 100) : -50176000 ≤ sI W 5 ∧ sI W 5 ≤ 50176000 := by
  have e : sI W 5 = 100352 * W 5 + hI W 3 - hI W 4 := rfl
  rw [hI_3, hI_4] at e
  have w0 := hW 5 (by omega)
  have g0 := gI_le hW (t := 0) (by omega)
  have g1 := gI_le hW (t := 1) (by omega)
  have g2 := gI_le hW (t := 2) (by omega)
  have g3 := gI_le hW (t := 3) (by omega)
  have g4 := gI_le hW (t := 4) (by omega)
  have g5 := gI_le hW (t := 5) (by omega)
  have g6 := gI_le hW (t := 6) (by omega)
  have g7 := gI_le hW (t := 7) (by omega)
  have g8 := gI_le hW (t := 8) (by omega)
  omega
theorem sI_6 (hW : ∀ k, k < 24 → -100 ≤ W k ∧ W k ≤ 100) : -50176000 ≤ sI W 6 ∧ sI W 6 ≤ 50176000 := by
  have e : sI W 6 = 100352 * W 6 + hI W 4 - hI W 5 := rfl
  rw [hI_4, hI_5] at e
  have w0 := hW 6 (by omega)
  have g0 := gI_le hW (t := 0) (by omega)
  have g1 := gI_le hW (t := 1) (by omega)
  have g2 := gI_le hW (t := 2) (by omega)
  have g3 := gI_le hW (t := 3) (by omega)
  have g4 := gI_le hW (t := 4) (by omega)
  have g5 := gI_le hW (t := 5) (by omega)
  have g6 := gI_le hW (t := 6) (by omega)
  have g7 := gI_le hW (t := 7) (by omega)
  have g8 := gI_le hW (t := 8) (by omega)
  omega
theorem sI_7 (hW : ∀ k, k < 24 → -100 ≤ W k ∧ W k ≤ 100) : -50176000 ≤ sI W 7 ∧ sI W 7 ≤ 50176000 := by
  have e : sI W 7 = 100352 * W 7 + hI W 5 - hI W 9 := rfl
  rw [hI_5, hI_9] at e
  have w0 := hW 7 (by omega)
  have g0 := gI_le hW (t := 0) (by omega)
  have g1 := gI_le hW (t := 1) (by omega)
  have g2 := gI_le hW (t := 2) (by omega)
  have g3 := gI_le hW (t := 3) (by omega)
  have g4 := gI_le hW (t := 4) (by omega)
  have g5 := gI_le hW (t := 5) (by omega)
  have g6 := gI_le hW (t := 6) (by omega)
  have g7 := gI_le hW (t := 7) (by omega)
  have g8 := gI_le hW (t := 8) (by omega)
  omega
theorem sI_8 (hW : ∀ k, k < 24 → -100 ≤ W k ∧ W k ≤ 100) : -50176000 ≤ sI W 8 ∧ sI W 8 ≤ 50176000 := by
  have e : sI W 8 = 100352 * W 8 + hI W 9 - hI W 6 := rfl
  rw [hI_9, hI_6] at e
  have w0 := hW 8 (by omega)
  have g0 := gI_le hW (t := 0) (by omega)
  have g1 := gI_le hW (t := 1) (by omega)
  have g2 := gI_le hW (t := 2) (by omega)
  have g3 := gI_le hW (t := 3) (by omega)
  have g4 := gI_le hW (t := 4) (by omega)
  have g5 := gI_le hW (t := 5) (by omega)
  have g6 := gI_le hW (t := 6) (by omega)
  have g7 := gI_le hW (t := 7) (by omega)
  have g8 := gI_le hW (t := 8) (by omega)
  omega
theorem sI_9 (hW : ∀ k, k < 24 → -100 ≤ W k ∧ W k ≤ 100) : -50176000 ≤ sI W 9 ∧ sI W 9 ≤ 50176000 := by
  have e : sI W 9 = 100352 * W 9 + hI W 6 - hI W 7 := rfl
  rw [hI_6, hI_7] at e
  have w0 := hW 9 (by omega)
  have g0 := gI_le hW (t := 0) (by omega)
  have g1 := gI_le hW (t := 1) (by omega)
  have g2 := gI_le hW (t := 2) (by omega)
  have g3 := gI_le hW (t := 3) (by omega)
  have g4 := gI_le hW (t := 4) (by omega)
  have g5 := gI_le hW (t := 5) (by omega)
  have g6 := gI_le hW (t := 6) (by omega)
  have g7 := gI_le hW (t := 7) (by omega)
  have g8 := gI_le hW (t := 8) (by omega)
  omega
theorem sI_10 (hW : ∀ k, k < 24 → -100 ≤ W k ∧ W k ≤ 100) : -50176000 ≤ sI W 10 ∧ sI W 10 ≤ 50176000 := by
  have e : sI W 10 = 100352 * W 10 + hI W 7 - hI W 8 := rfl
  rw [hI_7, hI_8] at e
  have w0 := hW 10 (by omega)
  have g0 := gI_le hW (t := 0) (by omega)
  have g1 := gI_le hW (t := 1) (by omega)
  have g2 := gI_le hW (t := 2) (by omega)
  have g3 := gI_le hW (t := 3) (by omega)
  have g4 := gI_le hW (t := 4) (by omega)
  have g5 := gI_le hW (t := 5) (by omega)
  have g6 := gI_le hW (t := 6) (by omega)
  have g7 := gI_le hW (t := 7) (by omega)
  have g8 := gI_le hW (t := 8) (by omega)
  omega
theorem sI_11 (hW : ∀ k, k < 24 → -100 ≤ W k ∧ W k ≤ 100) : -50176000 ≤ sI W 11 ∧ sI W 11 ≤ 50176000 := by
  have e : sI W 11 = 100352 * W 11 + hI W 8 - hI W 9 := rfl
  rw [hI_8, hI_9] at e
  have w0 := hW 11 (by omega)
  have g0 := gI_le hW (t := 0) (by omega)
  have g1 := gI_le hW (t := 1) (by omega)
  have g2 := gI_le hW (t := 2) (by omega)
  have g3 := gI_le hW (t := 3) (by omega)
  have g4 := gI_le hW (t := 4) (by omega)
  have g5 := gI_le hW (t := 5) (by omega)
  have g6 := gI_le hW (t := 6) (by omega)
  have g7 := gI_le hW (t := 7) (by omega)
  have g8 := gI_le hW (t := 8) (by omega)
  omega
theorem sI_12 (hW : ∀ k, k < 24 → -100 ≤ W k ∧ W k ≤ 100) : -50176000 ≤ sI W 12 ∧ sI W 12 ≤ 50176000 := by
  have e : sI W 12 = 100352 * W 12 + hI W 9 - hI W 0 := rfl
  rw [hI_9, hI_0] at e
  have w0 := hW 12 (by omega)
  have g0 := gI_le hW (t := 0) (by omega)
  have g1 := gI_le hW (t := 1) (by omega)
  have g2 := gI_le hW (t := 2) (by omega)
  have g3 := gI_le hW (t := 3) (by omega)
  have g4 := gI_le hW (t := 4) (by omega)
  have g5 := gI_le hW (t := 5) (by omega)
  have g6 := gI_le hW (t := 6) (by omega)
  have g7 := gI_le hW (t := 7) (by omega)
  have g8 := gI_le hW (t := 8) (by omega)
  omega
theorem sI_13 (hW : ∀ k, k < 24 → -100 ≤ W k ∧ W k ≤ 100) : -50176000 ≤ sI W 13 ∧ sI W 13 ≤ 50176000 := by
  have e : sI W 13 = 100352 * W 13 + hI W 9 - hI W 1 := rfl
  rw [hI_9, hI_1] at e
  have w0 := hW 13 (by omega)
  have g0 := gI_le hW (t := 0) (by omega)
  have g1 := gI_le hW (t := 1) (by omega)
  have g2 := gI_le hW (t := 2) (by omega)
  have g3 := gI_le hW (t := 3) (by omega)
  have g4 := gI_le hW (t := 4) (by omega)
  have g5 := gI_le hW (t := 5) (by omega)
  have g6 := gI_le hW (t := 6) (by omega)
  have g7 := gI_le hW (t := 7) (by omega)
  have g8 := gI_le hW (t := 8) (by omega)
  omega
theorem sI_14 (hW : ∀ k, k < 24 → -100 ≤ W k ∧ W k ≤ 100) : -50176000 ≤ sI W 14 ∧ sI W 14 ≤ 50176000 := by
  have e : sI W 14 = 100352 * W 14 + hI W 9 - hI W 2 := rfl
  rw [hI_9, hI_2] at e
  have w0 := hW 14 (by omega)
  have g0 := gI_le hW (t := 0) (by omega)
  have g1 := gI_le hW (t := 1) (by omega)
  have g2 := gI_le hW (t := 2) (by omega)
  have g3 := gI_le hW (t := 3) (by omega)
  have g4 := gI_le hW (t := 4) (by omega)
  have g5 := gI_le hW (t := 5) (by omega)
  have g6 := gI_le hW (t := 6) (by omega)
  have g7 := gI_le hW (t := 7) (by omega)
  have g8 := gI_le hW (t := 8) (by omega)
  omega
theorem sI_15 (hW : ∀ k, k < 24 → -100 ≤ W k ∧ W k ≤ 100) : -50176000 ≤ sI W 15 ∧ sI W 15 ≤ 50176000 := by
  have e : sI W 15 = 100352 * W 15 + hI W 0 - hI W 3 := rfl
  rw [hI_0, hI_3] at e
  have w0 := hW 15 (by omega)
  have g0 := gI_le hW (t := 0) (by omega)
  have g1 := gI_le hW (t := 1) (by omega)
  have g2 := gI_le hW (t := 2) (by omega)
  have g3 := gI_le hW (t := 3) (by omega)
  have g4 := gI_le hW (t := 4) (by omega)
  have g5 := gI_le hW (t := 5) (by omega)
  have g6 := gI_le hW (t := 6) (by omega)
  have g7 := gI_le hW (t := 7) (by omega)
  have g8 := gI_le hW (t := 8) (by omega)
  omega
theorem sI_16 (hW : ∀ k, k < 24 → -100 ≤ W k ∧ W k ≤ 100) : -50176000 ≤ sI W 16 ∧ sI W 16 ≤ 50176000 := by
  have e : sI W 16 = 100352 * W 16 + hI W 1 - hI W 4 := rfl
  rw [hI_1, hI_4] at e
  have w0 := hW 16 (by omega)
  have g0 := gI_le hW (t := 0) (by omega)
  have g1 := gI_le hW (t := 1) (by omega)
  have g2 := gI_le hW (t := 2) (by omega)
  have g3 := gI_le hW (t := 3) (by omega)
  have g4 := gI_le hW (t := 4) (by omega)
  have g5 := gI_le hW (t := 5) (by omega)
  have g6 := gI_le hW (t := 6) (by omega)
  have g7 := gI_le hW (t := 7) (by omega)
  have g8 := gI_le hW (t := 8) (by omega)
  omega
theorem sI_17 (hW : ∀ k, k < 24 → -100 ≤ W k ∧ W k ≤ 100) : -50176000 ≤ sI W 17 ∧ sI W 17 ≤ 50176000 := by
  have e : sI W 17 = 100352 * W 17 + hI W 2 - hI W 5 := rfl
  rw [hI_2, hI_5] at e
  have w0 := hW 17 (by omega)
  have g0 := gI_le hW (t := 0) (by omega)
  have g1 := gI_le hW (t := 1) (by omega)
  have g2 := gI_le hW (t := 2) (by omega)
  have g3 := gI_le hW (t := 3) (by omega)
  have g4 := gI_le hW (t := 4) (by omega)
  have g5 := gI_le hW (t := 5) (by omega)
  have g6 := gI_le hW (t := 6) (by omega)
  have g7 := gI_le hW (t := 7) (by omega)
  have g8 := gI_le hW (t := 8) (by omega)
  omega
theorem sI_18 (hW : ∀ k, k < 24 → -100 ≤ W k ∧ W k ≤ 100) : -50176000 ≤ sI W 18 ∧ sI W 18 ≤ 50176000 := by
  have e : sI W 18 = 100352 * W 18 + hI W 3 - hI W 6 := rfl
  rw [hI_3, hI_6] at e
  have w0 := hW 18 (by omega)
  have g0 := gI_le hW (t := 0) (by omega)
  have g1 := gI_le hW (t := 1) (by omega)
  have g2 := gI_le hW (t := 2) (by omega)
  have g3 := gI_le hW (t := 3) (by omega)
  have g4 := gI_le hW (t := 4) (by omega)
  have g5 := gI_le hW (t := 5) (by omega)
  have g6 := gI_le hW (t := 6) (by omega)
  have g7 := gI_le hW (t := 7) (by omega)
  have g8 := gI_le hW (t := 8) (by omega)
  omega
theorem sI_19 (hW : ∀ k, k < 24 → -100 ≤ W k ∧ W k ≤ 100) : -50176000 ≤ sI W 19 ∧ sI W 19 ≤ 50176000 := by
  have e : sI W 19 = 100352 * W 19 + hI W 4 - hI W 7 := rfl
  rw [hI_4, hI_7] at e
  have w0 := hW 19 (by omega)
  have g0 := gI_le hW (t := 0) (by omega)
  have g1 := gI_le hW (t := 1) (by omega)
  have g2 := gI_le hW (t := 2) (by omega)
  have g3 := gI_le hW (t := 3) (by omega)
  have g4 := gI_le hW (t := 4) (by omega)
  have g5 := gI_le hW (t := 5) (by omega)
  have g6 := gI_le hW (t := 6) (by omega)
  have g7 := gI_le hW (t := 7) (by omega)
  have g8 := gI_le hW (t := 8) (by omega)
  omega
theorem sI_20 (hW : ∀ k, k < 24 → -100 ≤ W k ∧ W k ≤ 100) : -50176000 ≤ sI W 20 ∧ sI W 20 ≤ 50176000 := by
  have e : sI W 20 = 100352 * W 20 + hI W 5 - hI W 8 := rfl
  rw [hI_5, hI_8] at e
  have w0 := hW 20 (by omega)
  have g0 := gI_le hW (t := 0) (by omega)
  have g1 := gI_le hW (t := 1) (by omega)
  have g2 := gI_le hW (t := 2) (by omega)
  have g3 := gI_le hW (t := 3) (by omega)
  have g4 := gI_le hW (t := 4) (by omega)
  have g5 := gI_le hW (t := 5) (by omega)
  have g6 := gI_le hW (t := 6) (by omega)
  have g7 := gI_le hW (t := 7) (by omega)
  have g8 := gI_le hW (t := 8) (by omega)
  omega
theorem sI_21 (hW : ∀ k, k < 24 → -100 ≤ W k ∧ W k ≤ 100) : -50176000 ≤ sI W 21 ∧ sI W 21 ≤ 50176000 := by
  have e : sI W 21 = 100352 * W 21 + hI W 6 - hI W 9 := rfl
  rw [hI_6, hI_9] at e
  have w0 := hW 21 (by omega)
  have g0 := gI_le hW (t := 0) (by omega)
  have g1 := gI_le hW (t := 1) (by omega)
  have g2 := gI_le hW (t := 2) (by omega)
  have g3 := gI_le hW (t := 3) (by omega)
  have g4 := gI_le hW (t := 4) (by omega)
  have g5 := gI_le hW (t := 5) (by omega)
  have g6 := gI_le hW (t := 6) (by omega)
  have g7 := gI_le hW (t := 7) (by omega)
  have g8 := gI_le hW (t := 8) (by omega)
  omega
theorem sI_22 (hW : ∀ k, k < 24 → -100 ≤ W k ∧ W k ≤ 100) : -50176000 ≤ sI W 22 ∧ sI W 22 ≤ 50176000 := by
  have e : sI W 22 = 100352 * W 22 + hI W 7 - hI W 9 := rfl
  rw [hI_7, hI_9] at e
  have w0 := hW 22 (by omega)
  have g0 := gI_le hW (t := 0) (by omega)
  have g1 := gI_le hW (t := 1) (by omega)
  have g2 := gI_le hW (t := 2) (by omega)
  have g3 := gI_le hW (t := 3) (by omega)
  have g4 := gI_le hW (t := 4) (by omega)
  have g5 := gI_le hW (t := 5) (by omega)
  have g6 := gI_le hW (t := 6) (by omega)
  have g7 := gI_le hW (t := 7) (by omega)
  have g8 := gI_le hW (t := 8) (by omega)
  omega
theorem sI_23 (hW : ∀ k, k < 24 → -100 ≤ W k ∧ W k ≤ 100) : -50176000 ≤ sI W 23 ∧ sI W 23 ≤ 50176000 := by
  have e : sI W 23 = 100352 * W 23 + hI W 8 - hI W 9 := rfl
  rw [hI_8, hI_9] at e
  have w0 := hW 23 (by omega)
  have g0 := gI_le hW (t := 0) (by omega)
  have g1 := gI_le hW (t := 1) (by omega)
  have g2 := gI_le hW (t := 2) (by omega)
  have g3 := gI_le hW (t := 3) (by omega)
  have g4 := gI_le hW (t := 4) (by omega)
  have g5 := gI_le hW (t := 5) (by omega)
  have g6 := gI_le hW (t := 6) (by omega)
  have g7 := gI_le hW (t := 7) (by omega)
  have g8 := gI_le hW (t := 8) (by omega)
  omega
theorem sI_le (hW : ∀ k, k < 24 → -100 ≤ W k ∧ W k ≤ 100) {k : Nat} (hk : k < 24) : -50176000 ≤ sI W k ∧ sI W k ≤ 50176000 := by
  rcases (show k = 0 ∨ k = 1 ∨ k = 2 ∨ k = 3 ∨ k = 4 ∨ k = 5 ∨ k = 6 ∨ k = 7 ∨ k = 8 ∨ k = 9 ∨ k = 10 ∨ k = 11 ∨ k = 12 ∨ k = 13 ∨ k = 14 ∨ k = 15 ∨ k = 16 ∨ k = 17 ∨ k = 18 ∨ k = 19 ∨ k = 20 ∨ k = 21 ∨ k = 22 ∨ k = 23 by omega) with e | e | e | e | e | e | e | e | e | e | e | e | e | e | e | e | e | e | e | e | e | e | e | e <;> subst e
  · exact sI_0 hW
  · exact sI_1 hW
  · exact sI_2 hW
  · exact sI_3 hW
  · exact sI_4 hW
  · exact sI_5 hW
  · exact sI_6 hW
  · exact sI_7 hW
  · exact sI_8 hW
  · exact sI_9 hW
  · exact sI_10 hW
  · exact sI_11 hW
  · exact sI_12 hW
  · exact sI_13 hW
  · exact sI_14 hW
  · exact sI_15 hW
  · exact sI_16 hW
  · exact sI_17 hW
  · exact sI_18 hW
  · exact sI_19 hW
  · exact sI_20 hW
  · exact sI_21 hW
  · exact sI_22 hW
  · exact sI_23 hW
theorem dv_0 : sI W 1 + -(sI W 0) + sI W 15 + -(sI W 12) = 0 := by
  have e1 : sI W 1 = 100352 * W 1 + hI W 0 - hI W 1 := rfl
  rw [hI_0, hI_1] at e1
  have e0 : sI W 0 = 100352 * W 0 + hI W 9 - hI W 0 := rfl
  rw [hI_9, hI_0] at e0
  have e15 : sI W 15 = 100352 * W 15 + hI W 0 - hI W 3 := rfl
  rw [hI_0, hI_3] at e15
  have e12 : sI W 12 = 100352 * W 12 + hI W 9 - hI W 0 := rfl
  rw [hI_9, hI_0] at e12
  have g : gI W 0 = W 0 - W 1 + W 12 - W 15 := rfl
  omega
theorem dv_1 : sI W 2 + -(sI W 1) + sI W 16 + -(sI W 13) = 0 := by
  have e2 : sI W 2 = 100352 * W 2 + hI W 1 - hI W 2 := rfl
  rw [hI_1, hI_2] at e2
  have e1 : sI W 1 = 100352 * W 1 + hI W 0 - hI W 1 := rfl
  rw [hI_0, hI_1] at e1
  have e16 : sI W 16 = 100352 * W 16 + hI W 1 - hI W 4 := rfl
  rw [hI_1, hI_4] at e16
  have e13 : sI W 13 = 100352 * W 13 + hI W 9 - hI W 1 := rfl
  rw [hI_9, hI_1] at e13
  have g : gI W 1 = W 1 - W 2 + W 13 - W 16 := rfl
  omega
theorem dv_2 : sI W 3 + -(sI W 2) + sI W 17 + -(sI W 14) = 0 := by
  have e3 : sI W 3 = 100352 * W 3 + hI W 2 - hI W 9 := rfl
  rw [hI_2, hI_9] at e3
  have e2 : sI W 2 = 100352 * W 2 + hI W 1 - hI W 2 := rfl
  rw [hI_1, hI_2] at e2
  have e17 : sI W 17 = 100352 * W 17 + hI W 2 - hI W 5 := rfl
  rw [hI_2, hI_5] at e17
  have e14 : sI W 14 = 100352 * W 14 + hI W 9 - hI W 2 := rfl
  rw [hI_9, hI_2] at e14
  have g : gI W 2 = W 2 - W 3 + W 14 - W 17 := rfl
  omega
theorem dv_3 : sI W 5 + -(sI W 4) + sI W 18 + -(sI W 15) = 0 := by
  have e5 : sI W 5 = 100352 * W 5 + hI W 3 - hI W 4 := rfl
  rw [hI_3, hI_4] at e5
  have e4 : sI W 4 = 100352 * W 4 + hI W 9 - hI W 3 := rfl
  rw [hI_9, hI_3] at e4
  have e18 : sI W 18 = 100352 * W 18 + hI W 3 - hI W 6 := rfl
  rw [hI_3, hI_6] at e18
  have e15 : sI W 15 = 100352 * W 15 + hI W 0 - hI W 3 := rfl
  rw [hI_0, hI_3] at e15
  have g : gI W 3 = W 4 - W 5 + W 15 - W 18 := rfl
  omega
theorem dv_4 : sI W 6 + -(sI W 5) + sI W 19 + -(sI W 16) = 0 := by
  have e6 : sI W 6 = 100352 * W 6 + hI W 4 - hI W 5 := rfl
  rw [hI_4, hI_5] at e6
  have e5 : sI W 5 = 100352 * W 5 + hI W 3 - hI W 4 := rfl
  rw [hI_3, hI_4] at e5
  have e19 : sI W 19 = 100352 * W 19 + hI W 4 - hI W 7 := rfl
  rw [hI_4, hI_7] at e19
  have e16 : sI W 16 = 100352 * W 16 + hI W 1 - hI W 4 := rfl
  rw [hI_1, hI_4] at e16
  have g : gI W 4 = W 5 - W 6 + W 16 - W 19 := rfl
  omega
theorem dv_5 : sI W 7 + -(sI W 6) + sI W 20 + -(sI W 17) = 0 := by
  have e7 : sI W 7 = 100352 * W 7 + hI W 5 - hI W 9 := rfl
  rw [hI_5, hI_9] at e7
  have e6 : sI W 6 = 100352 * W 6 + hI W 4 - hI W 5 := rfl
  rw [hI_4, hI_5] at e6
  have e20 : sI W 20 = 100352 * W 20 + hI W 5 - hI W 8 := rfl
  rw [hI_5, hI_8] at e20
  have e17 : sI W 17 = 100352 * W 17 + hI W 2 - hI W 5 := rfl
  rw [hI_2, hI_5] at e17
  have g : gI W 5 = W 6 - W 7 + W 17 - W 20 := rfl
  omega
theorem dv_6 : sI W 9 + -(sI W 8) + sI W 21 + -(sI W 18) = 0 := by
  have e9 : sI W 9 = 100352 * W 9 + hI W 6 - hI W 7 := rfl
  rw [hI_6, hI_7] at e9
  have e8 : sI W 8 = 100352 * W 8 + hI W 9 - hI W 6 := rfl
  rw [hI_9, hI_6] at e8
  have e21 : sI W 21 = 100352 * W 21 + hI W 6 - hI W 9 := rfl
  rw [hI_6, hI_9] at e21
  have e18 : sI W 18 = 100352 * W 18 + hI W 3 - hI W 6 := rfl
  rw [hI_3, hI_6] at e18
  have g : gI W 6 = W 8 - W 9 + W 18 - W 21 := rfl
  omega
theorem dv_7 : sI W 10 + -(sI W 9) + sI W 22 + -(sI W 19) = 0 := by
  have e10 : sI W 10 = 100352 * W 10 + hI W 7 - hI W 8 := rfl
  rw [hI_7, hI_8] at e10
  have e9 : sI W 9 = 100352 * W 9 + hI W 6 - hI W 7 := rfl
  rw [hI_6, hI_7] at e9
  have e22 : sI W 22 = 100352 * W 22 + hI W 7 - hI W 9 := rfl
  rw [hI_7, hI_9] at e22
  have e19 : sI W 19 = 100352 * W 19 + hI W 4 - hI W 7 := rfl
  rw [hI_4, hI_7] at e19
  have g : gI W 7 = W 9 - W 10 + W 19 - W 22 := rfl
  omega
theorem dv_8 : sI W 11 + -(sI W 10) + sI W 23 + -(sI W 20) = 0 := by
  have e11 : sI W 11 = 100352 * W 11 + hI W 8 - hI W 9 := rfl
  rw [hI_8, hI_9] at e11
  have e10 : sI W 10 = 100352 * W 10 + hI W 7 - hI W 8 := rfl
  rw [hI_7, hI_8] at e10
  have e23 : sI W 23 = 100352 * W 23 + hI W 8 - hI W 9 := rfl
  rw [hI_8, hI_9] at e23
  have e20 : sI W 20 = 100352 * W 20 + hI W 5 - hI W 8 := rfl
  rw [hI_5, hI_8] at e20
  have g : gI W 8 = W 10 - W 11 + W 20 - W 23 := rfl
  omega
end SB
def po (x : Int) : Int := if 0 < x then x else 0
theorem po_nn (x : Int) : 0 ≤ po x := by
  unfold po
  split <;> omega
theorem po4 {x y z u M : Int} (h : x + y + z + u = 0) (hx : -M ≤ x ∧ x ≤ M) (hy : -M ≤ y ∧ y ≤ M) (hz : -M ≤ z ∧ z ≤ M) (hu : -M ≤ u ∧ u ≤ M) : po x + po y + po z + po u ≤ 2 * M := by
  unfold po
  split <;> split <;> split <;> split <;> omega
def outI (S : Nat → Int) (q w : Nat) : Int := (if zFROM.getD w 0 = q then po (S w) else 0) + (if zTO.getD w 0 = q then po (-(S w)) else 0)
def sumI (f : Nat → Int) (n : Nat) : Int := zfold (fun k t => t + f k) n 0
theorem sumI_s (f : Nat → Int) (n : Nat) : sumI f (n + 1) = sumI f n + f n := rfl
theorem out_0 (S : Nat → Int) : sumI (outI S 0) 24 = ((((((((((((((((((((((((0 + (0 + po (-(S 0)))) + (po (S 1) + 0)) + (0 + 0)) + (0 + 0)) + (0 + 0)) + (0 + 0)) + (0 + 0)) + (0 + 0)) + (0 + 0)) + (0 + 0)) + (0 + 0)) + (0 + 0)) + (0 + po (-(S 12)))) + (0 + 0)) + (0 + 0)) + (po (S 15) + 0)) + (0 + 0)) + (0 + 0)) + (0 + 0)) + (0 + 0)) + (0 + 0)) + (0 + 0)) + (0 + 0)) + (0 + 0)) := rfl
theorem out_1 (S : Nat → Int) : sumI (outI S 1) 24 = ((((((((((((((((((((((((0 + (0 + 0)) + (0 + po (-(S 1)))) + (po (S 2) + 0)) + (0 + 0)) + (0 + 0)) + (0 + 0)) + (0 + 0)) + (0 + 0)) + (0 + 0)) + (0 + 0)) + (0 + 0)) + (0 + 0)) + (0 + 0)) + (0 + po (-(S 13)))) + (0 + 0)) + (0 + 0)) + (po (S 16) + 0)) + (0 + 0)) + (0 + 0)) + (0 + 0)) + (0 + 0)) + (0 + 0)) + (0 + 0)) + (0 + 0)) := rfl
theorem out_2 (S : Nat → Int) : sumI (outI S 2) 24 = ((((((((((((((((((((((((0 + (0 + 0)) + (0 + 0)) + (0 + po (-(S 2)))) + (po (S 3) + 0)) + (0 + 0)) + (0 + 0)) + (0 + 0)) + (0 + 0)) + (0 + 0)) + (0 + 0)) + (0 + 0)) + (0 + 0)) + (0 + 0)) + (0 + 0)) + (0 + po (-(S 14)))) + (0 + 0)) + (0 + 0)) + (po (S 17) + 0)) + (0 + 0)) + (0 + 0)) + (0 + 0)) + (0 + 0)) + (0 + 0)) + (0 + 0)) := rfl
theorem out_3 (S : Nat → Int) : sumI (outI S 3) 24 = ((((((((((((((((((((((((0 + (0 + 0)) + (0 + 0)) + (0 + 0)) + (0 + 0)) + (0 + po (-(S 4)))) + (po (S 5) + 0)) + (0 + 0)) + (0 + 0)) + (0 + 0)) + (0 + 0)) + (0 + 0)) + (0 + 0)) + (0 + 0)) + (0 + 0)) + (0 + 0)) + (0 + po (-(S 15)))) + (0 + 0)) + (0 + 0)) + (po (S 18) + 0)) + (0 + 0)) + (0 + 0)) + (0 + 0)) + (0 + 0)) + (0 + 0)) := rfl
theorem out_4 (S : Nat → Int) : sumI (outI S 4) 24 = ((((((((((((((((((((((((0 + (0 + 0)) + (0 + 0)) + (0 + 0)) + (0 + 0)) + (0 + 0)) + (0 + po (-(S 5)))) + (po (S 6) + 0)) + (0 + 0)) + (0 + 0)) + (0 + 0)) + (0 + 0)) + (0 + 0)) + (0 + 0)) + (0 + 0)) + (0 + 0)) + (0 + 0)) + (0 + po (-(S 16)))) + (0 + 0)) + (0 + 0)) + (po (S 19) + 0)) + (0 + 0)) + (0 + 0)) + (0 + 0)) + (0 + 0)) := rfl
theorem out_5 (S : Nat → Int) : sumI (outI S 5) 24 = ((((((((((((((((((((((((0 + (0 + 0)) + (0 + 0)) + (0 + 0)) + (0 + 0)) + (0 + 0)) + (0 + 0)) + (0 + po (-(S 6)))) + (po (S 7) + 0)) + (0 + 0)) + (0 + 0)) + (0 + 0)) + (0 + 0)) + (0 + 0)) + (0 + 0)) + (0 + 0)) + (0 + 0)) + (0 + 0)) + (0 + po (-(S 17)))) + (0 + 0)) + (0 + 0)) + (po (S 20) + 0)) + (0 + 0)) + (0 + 0)) + (0 + 0)) := rfl
theorem out_6 (S : Nat → Int) : sumI (outI S 6) 24 = ((((((((((((((((((((((((0 + (0 + 0)) + (0 + 0)) + (0 + 0)) + (0 + 0)) + (0 + 0)) + (0 + 0)) + (0 + 0)) + (0 + 0)) + (0 + po (-(S 8)))) + (po (S 9) + 0)) + (0 + 0)) + (0 + 0)) + (0 + 0)) + (0 + 0)) + (0 + 0)) + (0 + 0)) + (0 + 0)) + (0 + 0)) + (0 + po (-(S 18)))) + (0 + 0)) + (0 + 0)) + (po (S 21) + 0)) + (0 + 0)) + (0 + 0)) := rfl
theorem out_7 (S : Nat → Int) : sumI (outI S 7) 24 = ((((((((((((((((((((((((0 + (0 + 0)) + (0 + 0)) + (0 + 0)) + (0 + 0)) + (0 + 0)) + (0 + 0)) + (0 + 0)) + (0 + 0)) + (0 + 0)) + (0 + po (-(S 9)))) + (po (S 10) + 0)) + (0 + 0)) + (0 + 0)) + (0 + 0)) + (0 + 0)) + (0 + 0)) + (0 + 0)) + (0 + 0)) + (0 + 0)) + (0 + po (-(S 19)))) + (0 + 0)) + (0 + 0)) + (po (S 22) + 0)) + (0 + 0)) := rfl
theorem out_8 (S : Nat → Int) : sumI (outI S 8) 24 = ((((((((((((((((((((((((0 + (0 + 0)) + (0 + 0)) + (0 + 0)) + (0 + 0)) + (0 + 0)) + (0 + 0)) + (0 + 0)) + (0 + 0)) + (0 + 0)) + (0 + 0)) + (0 + po (-(S 10)))) + (po (S 11) + 0)) + (0 + 0)) + (0 + 0)) + (0 + 0)) + (0 + 0)) + (0 + 0)) + (0 + 0)) + (0 + 0)) + (0 + 0)) + (0 + po (-(S 20)))) + (0 + 0)) + (0 + 0)) + (po (S 23) + 0)) := rfl
theorem out_le {S : Nat → Int} {W : Nat → Int} (hW : ∀ k, k < 24 → -100 ≤ W k ∧ W k ≤ 100) (hS : ∀ w, w < 24 → S w = sI W w) {q : Nat} (hq : q < 9) : sumI (outI S q) 24 ≤ 100352000 := by
  rcases (show q = 0 ∨ q = 1 ∨ q = 2 ∨ q = 3 ∨ q = 4 ∨ q = 5 ∨ q = 6 ∨ q = 7 ∨ q = 8 by omega) with e | e | e | e | e | e | e | e | e <;> subst e
  · rw [out_0, hS 1 (by omega), hS 0 (by omega), hS 15 (by omega), hS 12 (by omega)]
    have h := po4 (M := 50176000) (dv_0 (W := W)) (sI_1 hW) (by have := sI_0 hW; omega) (sI_15 hW) (by have := sI_12 hW; omega)
    omega
  · rw [out_1, hS 2 (by omega), hS 1 (by omega), hS 16 (by omega), hS 13 (by omega)]
    have h := po4 (M := 50176000) (dv_1 (W := W)) (sI_2 hW) (by have := sI_1 hW; omega) (sI_16 hW) (by have := sI_13 hW; omega)
    omega
  · rw [out_2, hS 3 (by omega), hS 2 (by omega), hS 17 (by omega), hS 14 (by omega)]
    have h := po4 (M := 50176000) (dv_2 (W := W)) (sI_3 hW) (by have := sI_2 hW; omega) (sI_17 hW) (by have := sI_14 hW; omega)
    omega
  · rw [out_3, hS 5 (by omega), hS 4 (by omega), hS 18 (by omega), hS 15 (by omega)]
    have h := po4 (M := 50176000) (dv_3 (W := W)) (sI_5 hW) (by have := sI_4 hW; omega) (sI_18 hW) (by have := sI_15 hW; omega)
    omega
  · rw [out_4, hS 6 (by omega), hS 5 (by omega), hS 19 (by omega), hS 16 (by omega)]
    have h := po4 (M := 50176000) (dv_4 (W := W)) (sI_6 hW) (by have := sI_5 hW; omega) (sI_19 hW) (by have := sI_16 hW; omega)
    omega
  · rw [out_5, hS 7 (by omega), hS 6 (by omega), hS 20 (by omega), hS 17 (by omega)]
    have h := po4 (M := 50176000) (dv_5 (W := W)) (sI_7 hW) (by have := sI_6 hW; omega) (sI_20 hW) (by have := sI_17 hW; omega)
    omega
  · rw [out_6, hS 9 (by omega), hS 8 (by omega), hS 21 (by omega), hS 18 (by omega)]
    have h := po4 (M := 50176000) (dv_6 (W := W)) (sI_9 hW) (by have := sI_8 hW; omega) (sI_21 hW) (by have := sI_18 hW; omega)
    omega
  · rw [out_7, hS 10 (by omega), hS 9 (by omega), hS 22 (by omega), hS 19 (by omega)]
    have h := po4 (M := 50176000) (dv_7 (W := W)) (sI_10 hW) (by have := sI_9 hW; omega) (sI_22 hW) (by have := sI_19 hW; omega)
    omega
  · rw [out_8, hS 11 (by omega), hS 10 (by omega), hS 23 (by omega), hS 20 (by omega)]
    have h := po4 (M := 50176000) (dv_8 (W := W)) (sI_11 hW) (by have := sI_10 hW; omega) (sI_23 hW) (by have := sI_20 hW; omega)
    omega
