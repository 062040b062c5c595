/-! ===== bridges: winds ===== -/
theorem i32_a0 (x : Int32) : x + nI 0 = x := by
  rw [nI_0, Int32.add_zero]
theorem i32_0a (x : Int32) : nI 0 + x = x := by
  rw [nI_0, Int32.zero_add]
theorem i32_sur (x y z u : Int32) : -x + y + -z + u = y - x + u - z := by
  rw [Int32.sub_eq_add_neg, Int32.sub_eq_add_neg]
  ac_rfl
theorem give_0 (wn : Nat → Int32) : giveF wn 0 24 = ((((((((((((((((((((((((nI 0 + -(wn 0)) + wn 1) + nI 0) + nI 0) + nI 0) + nI 0) + nI 0) + nI 0) + nI 0) + nI 0) + nI 0) + nI 0) + -(wn 12)) + nI 0) + nI 0) + wn 15) + nI 0) + nI 0) + nI 0) + nI 0) + nI 0) + nI 0) + nI 0) + nI 0) := rfl
theorem give_1 (wn : Nat → Int32) : giveF wn 1 24 = ((((((((((((((((((((((((nI 0 + nI 0) + -(wn 1)) + wn 2) + nI 0) + nI 0) + nI 0) + nI 0) + nI 0) + nI 0) + nI 0) + nI 0) + nI 0) + nI 0) + -(wn 13)) + nI 0) + nI 0) + wn 16) + nI 0) + nI 0) + nI 0) + nI 0) + nI 0) + nI 0) + nI 0) := rfl
theorem give_2 (wn : Nat → Int32) : giveF wn 2 24 = ((((((((((((((((((((((((nI 0 + nI 0) + nI 0) + -(wn 2)) + wn 3) + nI 0) + nI 0) + nI 0) + nI 0) + nI 0) + nI 0) + nI 0) + nI 0) + nI 0) + nI 0) + -(wn 14)) + nI 0) + nI 0) + wn 17) + nI 0) + nI 0) + nI 0) + nI 0) + nI 0) + nI 0) := rfl
theorem give_3 (wn : Nat → Int32) : giveF wn 3 24 = ((((((((((((((((((((((((nI 0 + nI 0) + nI 0) + nI 0) + nI 0) + -(wn 4)) + wn 5) + nI 0) + nI 0) + nI 0) + nI 0) + nI 0) + nI 0) + nI 0) + nI 0) + nI 0) + -(wn 15)) + nI 0) + nI 0) + wn 18) + nI 0) + nI 0) + nI 0) + nI 0) + nI 0) := rfl
theorem give_4 (wn : Nat → Int32) : giveF wn 4 24 = ((((((((((((((((((((((((nI 0 + nI 0) + nI 0) + nI 0) + nI 0) + nI 0) + -(wn 5)) + wn 6) + nI 0) + nI 0) + nI 0) + nI 0) + nI 0) + nI 0) + nI 0) + nI 0) + nI 0) + -(wn 16)) + nI 0) + nI 0) + wn 19) + nI 0) + nI 0) + nI 0) + nI 0) := rfl
theorem give_5 (wn : Nat → Int32) : giveF wn 5 24 = ((((((((((((((((((((((((nI 0 + nI 0) + nI 0) + nI 0) + nI 0) + nI 0) + nI 0) + -(wn 6)) + wn 7) + nI 0) + nI 0) + nI 0) + nI 0) + nI 0) + nI 0) + nI 0) + nI 0) + nI 0) + -(wn 17)) + nI 0) + nI 0) + wn 20) + nI 0) + nI 0) + nI 0) := rfl
theorem give_6 (wn : Nat → Int32) : giveF wn 6 24 = ((((((((((((((((((((((((nI 0 + nI 0) + nI 0) + nI 0) + nI 0) + nI 0) + nI 0) + nI 0) + nI 0) + -(wn 8)) + wn 9) + nI 0) + nI 0) + nI 0) + nI 0) + nI 0) + nI 0) + nI 0) + nI 0) + -(wn 18)) + nI 0) + nI 0) + wn 21) + nI 0) + nI 0) := rfl
theorem give_7 (wn : Nat → Int32) : giveF wn 7 24 = ((((((((((((((((((((((((nI 0 + nI 0) + nI 0) + nI 0) + nI 0) + nI 0) + nI 0) + nI 0) + nI 0) + nI 0) + -(wn 9)) + wn 10) + nI 0) + nI 0) + nI 0) + nI 0) + nI 0) + nI 0) + nI 0) + nI 0) + -(wn 19)) + nI 0) + nI 0) + wn 22) + nI 0) := rfl
theorem give_8 (wn : Nat → Int32) : giveF wn 8 24 = ((((((((((((((((((((((((nI 0 + nI 0) + nI 0) + nI 0) + nI 0) + nI 0) + nI 0) + nI 0) + nI 0) + nI 0) + nI 0) + -(wn 10)) + wn 11) + nI 0) + nI 0) + nI 0) + nI 0) + nI 0) + nI 0) + nI 0) + nI 0) + -(wn 20)) + nI 0) + nI 0) + wn 23) := rfl
theorem sur_give (wn : Nat → Int32) {j : Nat} (hj : j < 9) : surF wn j = giveF wn j 24 := by
  rcases (show j = 0 ∨ j = 1 ∨ j = 2 ∨ j = 3 ∨ j = 4 ∨ j = 5 ∨ j = 6 ∨ j = 7 ∨ j = 8 by omega) with e | e | e | e | e | e | e | e | e <;> subst e
  · rw [give_0]
    simp only [i32_a0, i32_0a]
    exact (i32_sur _ _ _ _).symm
  · rw [give_1]
    simp only [i32_a0, i32_0a]
    exact (i32_sur _ _ _ _).symm
  · rw [give_2]
    simp only [i32_a0, i32_0a]
    exact (i32_sur _ _ _ _).symm
  · rw [give_3]
    simp only [i32_a0, i32_0a]
    exact (i32_sur _ _ _ _).symm
  · rw [give_4]
    simp only [i32_a0, i32_0a]
    exact (i32_sur _ _ _ _).symm
  · rw [give_5]
    simp only [i32_a0, i32_0a]
    exact (i32_sur _ _ _ _).symm
  · rw [give_6]
    simp only [i32_a0, i32_0a]
    exact (i32_sur _ _ _ _).symm
  · rw [give_7]
    simp only [i32_a0, i32_0a]
    exact (i32_sur _ _ _ _).symm
  · rw [give_8]
    simp only [i32_a0, i32_0a]
    exact (i32_sur _ _ _ _).symm
theorem surF_congr {wn wm : Nat → Int32} (h : ∀ k, k < 24 → wn k = wm k) {j : Nat} (hj : j < 9) : surF wn j = surF wm j := by
  unfold surF
  rw [h _ (by omega), h _ (by omega), h _ (by omega), h _ (by omega)]
theorem short_ok (v : Int32) : shortF v = v.toInt16.toInt32 := by
  rw [← Int32.toInt_inj]
  unfold shortF
  have h1 := pk_shl v (nI 16 &&& 31) 16 (by decide +kernel)
  rw [pk_shr _ _ 16 (by decide +kernel), Int16.toInt_toInt32, Int32.toInt_toInt16, Int.shiftRight_eq_div_pow, Int.bmod_def]
  have h2 := BitVec.toInt_eq_toNat_cond (v <<< (nI 16 &&& 31)).toBitVec
  have h3 := BitVec.toInt_eq_toNat_cond v.toBitVec
  rw [Int32.toInt_toBitVec] at h2 h3
  rw [h1] at h2
  have h4 := v.toBitVec.isLt
  generalize (v <<< (nI 16 &&& 31)).toInt = A at *
  generalize v.toInt = B at *
  generalize v.toBitVec.toNat = N at *
  split at h2 <;> split at h3 <;> split <;> omega
theorem net_ok (w : Int32) (x y : Int64) : 100352 * w.toInt64 + (x - y) = 100352 * w.toInt64 + x - y := by
  rw [Int64.sub_eq_add_neg, Int64.sub_eq_add_neg, Int64.add_assoc]
