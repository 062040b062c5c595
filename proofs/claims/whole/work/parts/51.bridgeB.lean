/-! ===== bridges: heights ===== -/
theorem gG_eq {wn : Nat → Int32} (hw : ∀ k, k < 24 → zB (wn k) (-100) 100) (t : Nat) : gG wn t = -(giveF wn t 24).toInt := by
  have h := giveF_le hw t 24 (by omega)
  unfold gG
  rw [Int32.toInt_neg, Int.bmod_eq_of_le (by omega) (by omega)]
theorem lN_of (n : Nat) : lN n = Int64.ofInt (n : Int) := rfl
theorem i2l_of (x : Int32) : x.toInt64 = Int64.ofInt x.toInt := zL_eq (Int32.toInt_toInt64 x)
theorem stT_ok {wn : Nat → Int32} (hw : ∀ k, k < 24 → zB (wn k) (-100) 100) {t q : Nat} (ht : t < 9) (hq : q < 9) : stT wn t q = Int64.ofInt (-(zBT 9 q (9 + t) * gG wn t)) := by
  unfold stT
  rw [sur_give wn ht, gG_eq hw, zBT_last q hq t ht, i2l_of, lN_of, show (448 : Int64) = Int64.ofInt 448 by decide +kernel, zL_mul, zL_mul, Nat.mul_comm t 9]
  congr 1
  rw [Int.mul_neg, Int.neg_neg, Int.mul_assoc, Int.mul_assoc, Int.mul_comm (giveF wn t 24).toInt]
theorem stF_ok {wn : Nat → Int32} (hw : ∀ k, k < 24 → zB (wn k) (-100) 100) {q : Nat} (hq : q < 9) : stF wn q 9 = zV (gG wn) 9 q 9 := by
  rw [stF_s, stF_s, stF_s, stF_s, stF_s, stF_s, stF_s, stF_s, stF_s]
  rw [stT_ok hw (t := 0) (by omega) hq, stT_ok hw (t := 1) (by omega) hq, stT_ok hw (t := 2) (by omega) hq, stT_ok hw (t := 3) (by omega) hq, stT_ok hw (t := 4) (by omega) hq, stT_ok hw (t := 5) (by omega) hq, stT_ok hw (t := 6) (by omega) hq, stT_ok hw (t := 7) (by omega) hq, stT_ok hw (t := 8) (by omega) hq]
  rw [show stF wn q 0 = Int64.ofInt 0 from rfl, zL_sub, zL_sub, zL_sub, zL_sub, zL_sub, zL_sub, zL_sub, zL_sub, zL_sub]
  unfold zV
  congr 1
  show _ = zS9 (fun t => zBT 9 q (9 + t) * gG wn t)
  dsimp only [zS9]
  omega
theorem giveF_congr {wn wm : Nat → Int32} (h : ∀ k, k < 24 → wn k = wm k) (t : Nat) : ∀ n, n ≤ 24 → giveF wn t n = giveF wm t n
  | 0, _ => rfl
  | n + 1, hn => by
    rw [giveF_s, giveF_s, giveF_congr h t n (by omega)]
    unfold giveT
    rw [h n (by omega)]
theorem HT_congr {wn wm : Nat → Int32} (h : ∀ k, k < 24 → wn k = wm k) (q : Nat) : HT wn q = HT wm q := by
  have e : gG wn = gG wm := by
    funext t
    unfold gG
    rw [giveF_congr h t 24 (Nat.le_refl 24)]
  unfold HT
  rw [e]
/-- the class's heights and net are the reference's -/
theorem settle_ok {wn : Nat → Int32} (hw : ∀ k, k < 24 → zB (wn k) (-100) 100) {h1 nt1 nt0 : Nat → Int64} (e1 : ∀ q, q < 9 → h1 q = stF wn q 9) (e2 : h1 9 = 0) (e3 : ∀ q, nt1 q = if q < 24 then 100352 * (wn q).toInt64 + (h1 (zFROM.getD q 0) - h1 (zTO.getD q 0)) else nt0 q) : (∀ q, q < 10 → h1 q = HT wn q) ∧ ∀ q, q < 24 → nt1 q = stillF wn (HT wn) q := by
  have h : ∀ q, q < 10 → h1 q = HT wn q := fun q hq => by
    unfold HT
    by_cases e : q < 9
    · rw [if_pos e, e1 q e, stF_ok hw e]
    · rw [if_neg e, show q = 9 by omega, e2]
  refine ⟨h, fun q hq => ?_⟩
  have hF := zFROM_le q
  have hT := zTO_le q
  rw [e3 q, if_pos hq, h _ (by omega), h _ (by omega), net_ok]
  rfl
