/-! ===== bridges: what is carried ===== -/
theorem accA_lin (f : Nat → Int64) : ∀ (k : Nat) (x : Int64), accA f k x = x + accA f k 0
  | 0, x => by
    show x = x + 0
    rw [Int64.add_zero]
  | k + 1, x => by
    rw [accA_s, accA_s, accA_lin f k x, Int64.add_assoc]
theorem accA_add (f h : Nat → Int64) : ∀ k, accA (fun i => f i + h i) k 0 = accA f k 0 + accA h k 0
  | 0 => by
    show (0 : Int64) = 0 + 0
    rw [Int64.add_zero]
  | k + 1 => by
    rw [accA_s, accA_s, accA_s, accA_add f h k]
    ac_rfl
theorem accA_congr {f h : Nat → Int64} (e : ∀ i, f i = h i) (k : Nat) (x : Int64) : accA f k x = accA h k x := by
  rw [show f = h from funext e]
theorem accA_one {f : Nat → Int64} {i : Nat} : ∀ k, (∀ j, j < k → j ≠ i → f j = 0) → accA f k 0 = if i < k then f i else 0
  | 0, _ => by
    rw [if_neg (by omega)]
    rfl
  | k + 1, h => by
    rw [accA_s, accA_one k (fun j hj => h j (by omega))]
    by_cases e : k = i
    · subst e
      rw [if_neg (by omega), if_pos (by omega), Int64.zero_add]
    · rw [h k (by omega) e, Int64.add_zero]
      by_cases e2 : i < k
      · rw [if_pos e2, if_pos (by omega)]
      · rw [if_neg e2, if_neg (by omega)]
theorem accW_A (nn st : Nat → Int64) (bx q k : Nat) (x : Int64) : accW nn st bx q k x = accA (fun w => mW nn st bx w q) k x := rfl
theorem accC_A (n nt : Nat → Int64) (q k : Nat) (x : Int64) : accC n nt q k x = accA (fun w => dW n nt w q) k x := rfl
theorem accM_A (nn st : Nat → Int64) (q : Nat) : ∀ k, accM nn st q k = accA (fun bx => (if q = bx then nn bx else 0) + accW nn st bx q 24 0) k 0
  | 0 => rfl
  | k + 1 => by
    rw [accM_s, accA_s, accM_A nn st q k, accW_A, accA_lin, ← accW_A, Int64.add_assoc]
theorem accO_A (nn st : Nat → Int64) : ∀ k x, accO nn st k x = accA (fun bx => accW nn st bx 9 24 0) k x
  | 0, x => rfl
  | k + 1, x => by
    rw [accO_s, accA_s, accO_A nn st k x, accW_A, accA_lin, ← accW_A]
theorem neg_pos64 {x : Int64} (hb : -9223372036854775808 < x.toInt) : 0 < -x ↔ x < 0 := by
  have h2 := Int64.toInt_lt x
  rw [Int64.lt_iff_toInt_lt, Int64.lt_iff_toInt_lt, Int64.toInt_neg, Int.bmod_eq_of_le (by omega) (by omega)]
  have h0 : (0 : Int64).toInt = 0 := rfl
  omega
theorem goF_0 (n : Int64) : goF n 0 = 0 := by
  unfold goF
  rw [Int64.mul_zero]
  exact Int64.zero_div
theorem neg0_64 : -(0 : Int64) = 0 := by decide +kernel
section SW
variable {nn st n nt : Nat → Int64}
theorem mW_sum {w q : Nat} (hw : w < 24) (hn : ∀ q, q < 9 → nn q = n q) (hst : st w = nt w) (hb : -9223372036854775808 < (nt w).toInt) : accA (fun bx => mW nn st bx w q) 9 0 = dW n nt w q := by
  have hF := zFROM_le w
  have hT := zTO_le w
  have hFT := zFT w hw
  have h0 : (0 : Int64).toInt = 0 := rfl
  by_cases hp : 0 < nt w
  · have hfr : frC nt w = zFROM.getD w 0 := if_pos hp
    have hto : toC nt w = zTO.getD w 0 := if_pos hp
    have hab : absL (nt w) = nt w := if_pos (Int64.le_of_lt hp)
    have hng : ¬ 0 < -(st w) := by
      rw [hst, neg_pos64 hb]
      rw [Int64.lt_iff_toInt_lt] at hp ⊢
      omega
    rw [accA_one (i := zFROM.getD w 0) 9 (fun j hj hne => by
      unfold mW
      rw [if_neg (fun e => hne e.symm)]
      by_cases e : zTO.getD w 0 = j
      · rw [if_pos e, if_neg hng]
      · rw [if_neg e])]
    unfold dW
    rw [hfr, hto, hab]
    by_cases e9 : zFROM.getD w 0 = 9
    · rw [if_pos e9, if_neg (by omega)]
    · rw [if_neg e9, if_pos (by omega), mW_F rfl (by rw [hst]; exact hp), hst, hn _ (by omega)]
  · have hfr : frC nt w = zTO.getD w 0 := if_neg hp
    have hto : toC nt w = zFROM.getD w 0 := if_neg hp
    rw [accA_one (i := zTO.getD w 0) 9 (fun j hj hne => by
      unfold mW
      by_cases e : zFROM.getD w 0 = j
      · rw [if_pos e, if_neg (by rw [hst]; exact hp)]
      · rw [if_neg e, if_neg (fun e => hne e.symm)])]
    unfold dW
    rw [hfr, hto]
    by_cases e9 : zTO.getD w 0 = 9
    · rw [if_pos e9, if_neg (by omega)]
    · rw [if_neg e9, if_pos (by omega)]
      by_cases hz : nt w < 0
      · have hab : absL (nt w) = -(nt w) := if_neg (Int64.not_le.mpr hz)
        rw [mW_T hFT rfl (by rw [hst, neg_pos64 hb]; exact hz), hst, hn _ (by omega), hab]
      · have hz2 : nt w = 0 := by
          rw [← Int64.toInt_inj]
          rw [Int64.lt_iff_toInt_lt] at hz hp
          omega
        have hab : absL (nt w) = 0 := by rw [hz2]; rfl
        rw [mW_T0 hFT rfl (by rw [hst, hz2]; decide), hab, goF_0, neg0_64, ite_self, ite_self]
variable (hn : ∀ q, q < 9 → nn q = n q) (hst : ∀ w, w < 24 → st w = nt w) (hb : ∀ w, w < 24 → -9223372036854775808 < (nt w).toInt)
theorem sum_swap {q : Nat} (hn : ∀ q, q < 9 → nn q = n q) (hst : ∀ w, w < 24 → st w = nt w) (hb : ∀ w, w < 24 → -9223372036854775808 < (nt w).toInt) : ∀ m, m ≤ 24 → accA (fun bx => accW nn st bx q m 0) 9 0 = accC n nt q m 0
  | 0, _ => rfl
  | m + 1, hm => by
    rw [accA_congr (h := fun bx => accW nn st bx q m 0 + mW nn st bx m q) (fun bx => accW_s nn st bx q m 0), accA_add, sum_swap hn hst hb m (by omega), accC_s, mW_sum (by omega) hn (hst m (by omega)) (hb m (by omega))]
theorem carry_in {q : Nat} (hq : q < 9) (hn : ∀ q, q < 9 → nn q = n q) (hst : ∀ w, w < 24 → st w = nt w) (hb : ∀ w, w < 24 → -9223372036854775808 < (nt w).toInt) : accM nn st q 9 = accC n nt q 24 (n q) := by
  have e1 := accA_lin (fun w => dW n nt w q) 24 (n q)
  rw [← accC_A, ← accC_A] at e1
  have e2 : accA (fun bx => if q = bx then nn bx else 0) 9 0 = n q := by
    rw [accA_one (f := fun bx => if q = bx then nn bx else 0) (i := q) 9 (fun j _ hne => if_neg (fun e => hne e.symm)), if_pos hq, if_pos rfl, hn q hq]
  rw [accM_A, accA_add, sum_swap hn hst hb 24 (Nat.le_refl 24), e1, e2]
theorem carry_out {x : Int64} (hn : ∀ q, q < 9 → nn q = n q) (hst : ∀ w, w < 24 → st w = nt w) (hb : ∀ w, w < 24 → -9223372036854775808 < (nt w).toInt) : accO nn st 9 x = accC n nt 9 24 x := by
  rw [accO_A, accA_lin, sum_swap hn hst hb 24 (Nat.le_refl 24), accC_A n nt 9 24 x, accA_lin, ← accC_A]
end SW
