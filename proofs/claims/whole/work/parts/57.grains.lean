/-! ===== bounds: grains stay, and their sum is kept ===== -/
theorem sumI_add (f h : Nat → Int) : ∀ n, sumI (fun k => f k + h k) n = sumI f n + sumI h n
  | 0 => rfl
  | n + 1 => by
    rw [sumI_s, sumI_s, sumI_s, sumI_add f h n]
    omega
theorem sumI_congr {f h : Nat → Int} : ∀ n, (∀ k, k < n → f k = h k) → sumI f n = sumI h n
  | 0, _ => rfl
  | n + 1, e => by rw [sumI_s, sumI_s, sumI_congr n (fun k hk => e k (by omega)), e n (by omega)]
theorem sumI_one {x : Int} {i : Nat} : ∀ n, sumI (fun k => if k = i then x else 0) n = if i < n then x else 0
  | 0 => rfl
  | n + 1 => by
    rw [sumI_s, sumI_one n]
    by_cases e : n = i
    · rw [if_pos e, if_neg (by omega), if_pos (by omega), Int.zero_add]
    · rw [if_neg e, Int.add_zero]
      by_cases e2 : i < n
      · rw [if_pos e2, if_pos (by omega)]
      · rw [if_neg e2, if_neg (by omega)]
theorem sumI_nn {f : Nat → Int} : ∀ n, (∀ k, k < n → 0 ≤ f k) → 0 ≤ sumI f n
  | 0, _ => Int.le_refl _
  | n + 1, h => by
    have h1 := sumI_nn n (fun k hk => h k (by omega))
    have h2 := h n (by omega)
    rw [sumI_s]
    omega
theorem sumI_each {f : Nat → Int} {i : Nat} : ∀ n, (∀ k, k < n → 0 ≤ f k) → i < n → f i ≤ sumI f n
  | 0, _, h => by omega
  | n + 1, h, hi => by
    have h1 := sumI_nn n (fun k hk => h k (by omega))
    have h2 := h n (by omega)
    rw [sumI_s]
    by_cases e : i = n
    · subst e
      omega
    · have := sumI_each (i := i) n (fun k hk => h k (by omega)) (by omega)
      omega
theorem sumI_mono {f h : Nat → Int} : ∀ n, (∀ k, k < n → f k ≤ h k) → sumI f n ≤ sumI h n
  | 0, _ => Int.le_refl _
  | n + 1, e => by
    have h1 := sumI_mono n (fun k hk => e k (by omega))
    have h2 := e n (by omega)
    rw [sumI_s, sumI_s]
    omega
theorem sumI_swap (D : Nat → Nat → Int) (m : Nat) : ∀ n, sumI (fun q => sumI (fun w => D q w) n) m = sumI (fun w => sumI (fun q => D q w) m) n
  | 0 => by
    rw [sumI_congr (h := fun k => if k = m then 0 else 0) m (fun k _ => by rw [ite_self]; rfl), sumI_one, ite_self]
    rfl
  | n + 1 => by
    rw [sumI_s, ← sumI_swap D m n, ← sumI_add]
    exact sumI_congr m (fun k _ => rfl)
theorem absL_int {x : Int64} (h : -50176000 ≤ x.toInt ∧ x.toInt ≤ 50176000) : 0 ≤ (absL x).toInt ∧ (absL x).toInt ≤ 50176000 ∧ (absL x).toInt = po x.toInt + po (-x.toInt) := by
  have h0 : (0 : Int64).toInt = 0 := rfl
  unfold absL po
  by_cases hx : 0 ≤ x
  · rw [if_pos hx]
    rw [Int64.le_iff_toInt_le, h0] at hx
    refine ⟨hx, h.2, ?_⟩
    split <;> split <;> omega
  · rw [if_neg hx]
    rw [Int64.le_iff_toInt_le, h0] at hx
    rw [Int64.toInt_neg, Int.bmod_eq_of_le (by omega) (by omega)]
    refine ⟨by omega, by omega, ?_⟩
    split <;> split <;> omega
theorem goF_int {x f : Int64} (hx : 0 ≤ x.toInt ∧ x.toInt ≤ 100000000000) (hf : 0 ≤ f.toInt ∧ f.toInt ≤ 50176000) : 0 ≤ (goF x f).toInt ∧ (goF x f).toInt ≤ x.toInt ∧ 100352000 * (goF x f).toInt ≤ x.toInt * f.toInt := by
  have hc : (100352000 : Int64).toInt = 100352000 := by decide +kernel
  have p1 : 0 ≤ x.toInt * f.toInt := Int.mul_nonneg hx.1 hf.1
  have p2 : x.toInt * f.toInt ≤ x.toInt * 50176000 := Int.mul_le_mul_of_nonneg_left hf.2 hx.1
  unfold goF
  rw [Int64.toInt_div, hc, Int64.toInt_mul]
  generalize x.toInt * f.toInt = P at *
  rw [Int.bmod_eq_of_le (n := P) (by omega) (by omega), Int.tdiv_eq_ediv_of_nonneg p1, Int.bmod_eq_of_le (by omega) (by omega)]
  omega
section BW
variable {n nt : Nat → Int64}
def dI (n nt : Nat → Int64) (q w : Nat) : Int := (dW n nt w q).toInt
def gW (n nt : Nat → Int64) (w : Nat) : Int := (goF (n (frC nt w)) (absL (nt w))).toInt
theorem frC_le (nt : Nat → Int64) (w : Nat) : frC nt w ≤ 9 ∧ toC nt w ≤ 9 := by
  have h1 := zFROM_le w
  have h2 := zTO_le w
  unfold frC toC
  split
  · exact ⟨h1, h2⟩
  · exact ⟨h2, h1⟩
theorem frC_ne (nt : Nat → Int64) {w : Nat} (hw : w < 24) : frC nt w ≠ toC nt w := by
  have h := zFT w hw
  unfold frC toC
  split
  · exact h
  · exact fun e => h e.symm
theorem gW_ok (hn : ∀ q, q < 10 → 0 ≤ (n q).toInt ∧ (n q).toInt ≤ 100000000000) (hs : ∀ w, w < 24 → -50176000 ≤ (nt w).toInt ∧ (nt w).toInt ≤ 50176000) {w : Nat} (hw : w < 24) : 0 ≤ gW n nt w ∧ gW n nt w ≤ 100000000000 ∧ 100352000 * gW n nt w ≤ (n (frC nt w)).toInt * (po (nt w).toInt + po (-(nt w).toInt)) := by
  have h1 := hn (frC nt w) (by have := (frC_le nt w).1; omega)
  obtain ⟨a1, a2, a3⟩ := absL_int (hs w hw)
  obtain ⟨g1, g2, g3⟩ := goF_int h1 ⟨a1, a2⟩
  rw [a3] at g3
  exact ⟨g1, Int.le_trans g2 h1.2, g3⟩
theorem dI_eq (hn : ∀ q, q < 10 → 0 ≤ (n q).toInt ∧ (n q).toInt ≤ 100000000000) (hs : ∀ w, w < 24 → -50176000 ≤ (nt w).toInt ∧ (nt w).toInt ≤ 50176000) {w : Nat} (hw : w < 24) (q : Nat) : dI n nt q w = if frC nt w = 9 then 0 else if q = frC nt w then -(gW n nt w) else if q = toC nt w then gW n nt w else 0 := by
  obtain ⟨g1, g2, -⟩ := gW_ok hn hs hw
  unfold dI dW
  by_cases h1 : frC nt w = 9
  · rw [if_pos h1, if_pos h1]
    rfl
  · rw [if_neg h1, if_neg h1]
    by_cases h2 : q = frC nt w
    · rw [if_pos h2, if_pos h2, Int64.toInt_neg]
      show (-(gW n nt w)).bmod _ = _
      rw [Int.bmod_eq_of_le (by omega) (by omega)]
    · rw [if_neg h2, if_neg h2]
      by_cases h3 : q = toC nt w
      · rw [if_pos h3, if_pos h3]
        rfl
      · rw [if_neg h3, if_neg h3]
        rfl
theorem dI_le (hn : ∀ q, q < 10 → 0 ≤ (n q).toInt ∧ (n q).toInt ≤ 100000000000) (hs : ∀ w, w < 24 → -50176000 ≤ (nt w).toInt ∧ (nt w).toInt ≤ 50176000) {w : Nat} (hw : w < 24) (q : Nat) : -100000000000 ≤ dI n nt q w ∧ dI n nt q w ≤ 100000000000 := by
  obtain ⟨g1, g2, -⟩ := gW_ok hn hs hw
  rw [dI_eq hn hs hw]
  split
  · omega
  · split
    · omega
    · split <;> omega
theorem acc_int (hn : ∀ q, q < 10 → 0 ≤ (n q).toInt ∧ (n q).toInt ≤ 100000000000) (hs : ∀ w, w < 24 → -50176000 ≤ (nt w).toInt ∧ (nt w).toInt ≤ 50176000) {x : Int64} (hx : 0 ≤ x.toInt ∧ x.toInt ≤ 100000000000) (q : Nat) : ∀ k, k ≤ 24 → (accC n nt q k x).toInt = x.toInt + sumI (dI n nt q) k ∧ -(100000000000 * (k : Int)) ≤ sumI (dI n nt q) k ∧ sumI (dI n nt q) k ≤ 100000000000 * (k : Int)
  | 0, _ => by
    refine ⟨?_, Int.le_refl _, Int.le_refl _⟩
    show x.toInt = x.toInt + 0
    omega
  | k + 1, hk => by
    obtain ⟨h1, h2, h3⟩ := acc_int hn hs hx q k (by omega)
    have h4 := dI_le hn hs (w := k) (by omega) q
    rw [accC_s, Int64.toInt_add, h1, sumI_s]
    show ((x.toInt + sumI (dI n nt q) k) + dI n nt q k).bmod _ = _ ∧ _
    rw [Int.bmod_eq_of_le (by omega) (by omega)]
    refine ⟨by omega, by omega, by omega⟩
theorem out_at {q w : Nat} (hw : w < 24) (hq : q = frC nt w) : outI (fun w => (nt w).toInt) q w = po (nt w).toInt + po (-(nt w).toInt) := by
  have h0 : (0 : Int64).toInt = 0 := rfl
  have hFT := zFT w hw
  unfold outI
  dsimp only
  by_cases hp : 0 < nt w
  · have e : frC nt w = zFROM.getD w 0 := if_pos hp
    rw [Int64.lt_iff_toInt_lt, h0] at hp
    rw [if_pos (by omega), if_neg (by omega)]
    unfold po
    split <;> split <;> omega
  · have e : frC nt w = zTO.getD w 0 := if_neg hp
    rw [Int64.lt_iff_toInt_lt, h0] at hp
    rw [if_neg (by omega), if_pos (by omega)]
    unfold po
    split <;> (try split) <;> omega
theorem out_nn (S : Nat → Int) (q w : Nat) : 0 ≤ outI S q w := by
  have h1 := po_nn (S w)
  have h2 := po_nn (-(S w))
  unfold outI
  split <;> split <;> omega
theorem loss_le (hn : ∀ q, q < 10 → 0 ≤ (n q).toInt ∧ (n q).toInt ≤ 100000000000) (hs : ∀ w, w < 24 → -50176000 ≤ (nt w).toInt ∧ (nt w).toInt ≤ 50176000) {q : Nat} (hq : q < 10) : ∀ k, k ≤ 24 → -((n q).toInt * sumI (outI (fun w => (nt w).toInt) q) k) ≤ 100352000 * sumI (dI n nt q) k
  | 0, _ => by
    show -((n q).toInt * 0) ≤ 100352000 * 0
    omega
  | k + 1, hk => by
    have ih := loss_le hn hs hq k (by omega)
    obtain ⟨g1, g2, g3⟩ := gW_ok hn hs (w := k) (by omega)
    have ho := Int.mul_nonneg (hn q hq).1 (out_nn (fun w => (nt w).toInt) q k)
    rw [sumI_s, sumI_s, Int.mul_add, Int.mul_add]
    have key : -((n q).toInt * outI (fun w => (nt w).toInt) q k) ≤ 100352000 * dI n nt q k := by
      rw [dI_eq hn hs (by omega)]
      by_cases h1 : frC nt k = 9
      · rw [if_pos h1]
        omega
      · rw [if_neg h1]
        by_cases h2 : q = frC nt k
        · rw [if_pos h2, out_at (by omega) h2, h2]
          omega
        · rw [if_neg h2]
          by_cases h3 : q = toC nt k
          · rw [if_pos h3]
            omega
          · rw [if_neg h3]
            omega
    omega
theorem dI_keep (hn : ∀ q, q < 10 → 0 ≤ (n q).toInt ∧ (n q).toInt ≤ 100000000000) (hs : ∀ w, w < 24 → -50176000 ≤ (nt w).toInt ∧ (nt w).toInt ≤ 50176000) {w : Nat} (hw : w < 24) : sumI (fun q => dI n nt q w) 10 = 0 := by
  have hl := frC_le nt w
  have hne := frC_ne nt hw
  by_cases h1 : frC nt w = 9
  · rw [sumI_congr (h := fun k => if k = 0 then 0 else 0) 10 (fun k _ => by rw [dI_eq hn hs hw, if_pos h1, ite_self]), sumI_one]
    rfl
  · rw [sumI_congr (h := fun k => (if k = frC nt w then -(gW n nt w) else 0) + (if k = toC nt w then gW n nt w else 0)) 10 (fun k _ => by
      rw [dI_eq hn hs hw, if_neg h1]
      by_cases h2 : k = frC nt w
      · rw [if_pos h2, if_pos h2, if_neg (by omega), Int.add_zero]
      · rw [if_neg h2, if_neg h2, Int.zero_add]), sumI_add, sumI_one, sumI_one, if_pos (by omega), if_pos (by omega)]
    omega
theorem blow_ok {pl1 : Nat → Int64} (hn : ∀ q, q < 10 → 0 ≤ (n q).toInt ∧ (n q).toInt ≤ 100000000000) (hs : ∀ w, w < 24 → -50176000 ≤ (nt w).toInt ∧ (nt w).toInt ≤ 50176000) (ho : ∀ q, q < 9 → sumI (outI (fun w => (nt w).toInt) q) 24 ≤ 100352000) (hp : ∀ q, q < 10 → pl1 q = accC n nt q 24 (n q)) : (∀ q, q < 10 → 0 ≤ (pl1 q).toInt) ∧ sumI (fun q => (pl1 q).toInt) 10 = sumI (fun q => (n q).toInt) 10 := by
  have he : ∀ q, q < 10 → (pl1 q).toInt = (n q).toInt + sumI (dI n nt q) 24 := fun q hq => by
    rw [hp q hq]
    exact (acc_int hn hs (hn q hq) q 24 (Nat.le_refl _)).1
  constructor
  · intro q hq
    rw [he q hq]
    have h1 := loss_le hn hs hq 24 (Nat.le_refl _)
    by_cases h9 : q < 9
    · have h2 : (n q).toInt * sumI (outI (fun w => (nt w).toInt) q) 24 ≤ (n q).toInt * 100352000 := Int.mul_le_mul_of_nonneg_left (ho q h9) (hn q hq).1
      omega
    · have e9 : q = 9 := by omega
      subst e9
      have h2 : 0 ≤ sumI (dI n nt 9) 24 := sumI_nn 24 (fun w hw => by
        rw [dI_eq hn hs hw]
        obtain ⟨g1, -, -⟩ := gW_ok hn hs hw
        by_cases h1 : frC nt w = 9
        · rw [if_pos h1]
          omega
        · rw [if_neg h1, if_neg (fun e => h1 e.symm)]
          split <;> omega)
      have := (hn 9 hq).1
      omega
  · rw [sumI_congr (h := fun q => (n q).toInt + sumI (fun w => dI n nt q w) 24) 10 (fun q hq => he q hq), sumI_add, sumI_swap, sumI_congr (f := fun w => sumI (fun q => dI n nt q w) 10) (h := fun k => if k = 0 then 0 else 0) 24 (fun w hw => by rw [dI_keep hn hs hw, ite_self]), sumI_one]
    rw [ite_self, Int.add_zero]
end BW
theorem fall_ok {m : Int64} {r : Int32} (hm : 0 ≤ m.toInt ∧ m.toInt ≤ 100000000000) (hr : zB r 0 1000) : 0 ≤ (m - (washF m r + laidF m r)).toInt ∧ (m - (washF m r + laidF m r)).toInt ≤ m.toInt := by
  have hc : (1000 : Int64).toInt = 1000 := by decide +kernel
  unfold zB at hr
  have p1 : 0 ≤ m.toInt * r.toInt := Int.mul_nonneg hm.1 hr.1
  have p2 : m.toInt * r.toInt ≤ m.toInt * 1000 := Int.mul_le_mul_of_nonneg_left hr.2 hm.1
  have w1 : (washF m r).toInt = m.toInt * r.toInt / 1000 := by
    unfold washF
    rw [Int64.toInt_div, hc, Int64.toInt_mul, Int32.toInt_toInt64]
    generalize m.toInt * r.toInt = P at *
    rw [Int.bmod_eq_of_le (n := P) (by omega) (by omega), Int.tdiv_eq_ediv_of_nonneg p1, Int.bmod_eq_of_le (by omega) (by omega)]
  have l1 : (laidF m r).toInt = (m.toInt - (washF m r).toInt) / 1000 := by
    unfold laidF
    rw [Int64.toInt_div, hc, Int64.toInt_sub, w1]
    generalize m.toInt * r.toInt = P at *
    rw [Int.bmod_eq_of_le (n := m.toInt - P / 1000) (by omega) (by omega), Int.tdiv_eq_ediv_of_nonneg (by omega), Int.bmod_eq_of_le (by omega) (by omega)]
  rw [Int64.toInt_sub, Int64.toInt_add, l1, w1]
  generalize m.toInt * r.toInt = P at *
  rw [Int.bmod_eq_of_le (n := P / 1000 + (m.toInt - P / 1000) / 1000) (by omega) (by omega), Int.bmod_eq_of_le (by omega) (by omega)]
  omega
/-- a source's grains: none below 0, all together at most T -/
def srcOK (pl : Nat → Int64) (T : Int) : Prop := (∀ q, q < 10 → 0 ≤ (pl q).toInt) ∧ sumI (fun q => (pl q).toInt) 10 ≤ T
theorem srcOK_each {pl : Nat → Int64} {T : Int} (h : srcOK pl T) {q : Nat} (hq : q < 10) : 0 ≤ (pl q).toInt ∧ (pl q).toInt ≤ T := ⟨h.1 q hq, Int.le_trans (sumI_each (f := fun q => (pl q).toInt) 10 h.1 hq) h.2⟩
theorem stuff_ok {nt : Nat → Int64} {hm : Nat} {rt r : Int32} {pl G pl1 G1 : Nat → Int64} {T : Int} (hT : T ≤ 50000000000) (hhm : hm < 9) (hrt : zB rt 0 1000000) (hr : zB r 0 1000) (hs : ∀ w, w < 24 → -50176000 ≤ (nt w).toInt ∧ (nt w).toInt ≤ 50176000) (ho : ∀ q, q < 9 → sumI (outI (fun w => (nt w).toInt) q) 24 ≤ 100352000) (h : srcOK pl T) (hst : stH nt hm rt r pl G pl1 G1) : srcOK pl1 (T + 1000000) := by
  unfold zB at hrt
  have e1 : ∀ q, q < 10 → (p1F pl hm rt q).toInt = (pl q).toInt + if q = hm then rt.toInt else 0 := fun q hq => by
    obtain ⟨a1, a2⟩ := srcOK_each h hq
    unfold p1F vp_updL
    by_cases e : q = hm
    · subst e
      rw [if_pos rfl, if_pos rfl, Int64.toInt_add, Int32.toInt_toInt64, Int.bmod_eq_of_le (by omega) (by omega)]
    · rw [if_neg e, if_neg e, Int.add_zero]
  have b1 : ∀ q, q < 10 → 0 ≤ (p1F pl hm rt q).toInt ∧ (p1F pl hm rt q).toInt ≤ 100000000000 := fun q hq => by
    obtain ⟨a1, a2⟩ := srcOK_each h hq
    rw [e1 q hq]
    split <;> omega
  have b2 : ∀ q, q < 10 → 0 ≤ (p2F pl hm rt r q).toInt ∧ (p2F pl hm rt r q).toInt ≤ (p1F pl hm rt q).toInt := fun q hq => by
    unfold p2F
    by_cases e : q < 9
    · rw [if_pos e]
      exact fall_ok (b1 q hq) hr
    · rw [if_neg e]
      exact ⟨(b1 q hq).1, Int.le_refl _⟩
  obtain ⟨c1, c2⟩ := blow_ok (n := p2F pl hm rt r) (fun q hq => ⟨(b2 q hq).1, Int.le_trans (b2 q hq).2 (b1 q hq).2⟩) hs ho hst.1
  refine ⟨c1, ?_⟩
  rw [c2]
  have c3 := sumI_mono (f := fun q => (p2F pl hm rt r q).toInt) (h := fun q => (p1F pl hm rt q).toInt) 10 (fun q hq => (b2 q hq).2)
  rw [sumI_congr (f := fun q => (p1F pl hm rt q).toInt) (h := fun q => (pl q).toInt + if q = hm then rt.toInt else 0) 10 (fun q hq => e1 q hq), sumI_add, sumI_one, if_pos (by omega)] at c3
  have := h.2
  omega
