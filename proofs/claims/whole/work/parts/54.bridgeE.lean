/-! ===== bridges: ranks ===== -/
theorem natA_add (f h : Nat → Nat) : ∀ n, natA (fun k => f k + h k) n = natA f n + natA h n
  | 0 => rfl
  | n + 1 => by
    rw [natA_s, natA_s, natA_s, natA_add f h n]
    omega
theorem natA_cut (f : Nat → Nat) (i : Nat) : ∀ n, i ≤ n → natA (fun j => if j < i then f j else 0) n = natA f i
  | 0, h => by
    have e : i = 0 := by omega
    subst e
    rfl
  | n + 1, h => by
    by_cases e : i = n + 1
    · subst e
      exact natA_congr (n + 1) (fun k hk => if_pos hk)
    · rw [natA_s, if_neg (by omega), natA_cut f i n (by omega), Nat.add_zero]
theorem natA_mono (f : Nat → Nat) (m : Nat) : ∀ n, natA f m ≤ natA f (m + n)
  | 0 => Nat.le_refl _
  | n + 1 => by
    have := natA_mono f m n
    rw [← Nat.add_assoc, natA_s]
    omega
theorem natA_cross (f : Nat → Nat) (hf : ∀ k, f k ≤ 1) (c K : Nat) : ∀ n, c ≤ K → K < c + natA f n → ∃ t, t < n ∧ f t = 1 ∧ c + natA f t = K
  | 0, h1, h2 => by
    have h3 : natA f 0 = 0 := rfl
    omega
  | n + 1, h1, h2 => by
    by_cases h : K < c + natA f n
    · obtain ⟨t, a, b⟩ := natA_cross f hf c K n h1 h
      exact ⟨t, by omega, b⟩
    · rw [natA_s] at h2
      have := hf n
      exact ⟨n, by omega, by omega, by omega⟩
def vI (sh : Nat → Int64) (d k : Nat) : Int := (nuF sh d k).toInt
def gtC (V : Nat → Int) (v : Int) (n : Nat) : Nat := natA (fun k => if v < V k then 1 else 0) n
def eqC (V : Nat → Int) (v : Int) (n : Nat) : Nat := natA (fun k => if V k = v then 1 else 0) n
theorem gt_eq (V : Nat → Int) (v : Int) (n : Nat) : gtC V (v - 1) n = gtC V v n + eqC V v n := by
  unfold gtC eqC
  rw [← natA_add]
  refine natA_congr n (fun k _ => ?_)
  by_cases h1 : v < V k
  · rw [if_pos h1, if_pos (by omega), if_neg (by omega)]
  · by_cases h2 : V k = v
    · rw [if_neg h1, if_pos (by omega), if_pos h2]
    · rw [if_neg h1, if_neg (by omega), if_neg h2]
theorem gt_anti {V : Nat → Int} {v u : Int} (h : v ≤ u) : ∀ n, gtC V u n ≤ gtC V v n
  | 0 => Nat.le_refl _
  | n + 1 => by
    have ih := gt_anti (V := V) h n
    unfold gtC at ih ⊢
    rw [natA_s, natA_s]
    by_cases h1 : u < V n
    · rw [if_pos h1, if_pos (by omega)]
      omega
    · rw [if_neg h1]
      omega
theorem ah_eq {sh : Nat → Int64} {d i n : Nat} (hi : i ≤ n) : ahF sh d i n = gtC (vI sh d) (vI sh d i) n + eqC (vI sh d) (vI sh d i) i := by
  unfold gtC eqC
  rw [← natA_cut (fun k => if vI sh d k = vI sh d i then 1 else 0) i n hi, ← natA_add]
  show natA (fun j => if nuF sh d i < nuF sh d j ∨ (nuF sh d j = nuF sh d i ∧ j < i) then 1 else 0) n = _
  refine natA_congr n (fun k _ => ?_)
  by_cases h1 : nuF sh d i < nuF sh d k
  · have h1' : vI sh d i < vI sh d k := Int64.lt_iff_toInt_lt.mp h1
    rw [if_pos (Or.inl h1), if_pos h1', if_neg (show ¬ vI sh d k = vI sh d i by omega), ite_self]
  · have h1' : ¬ vI sh d i < vI sh d k := fun q => h1 (Int64.lt_iff_toInt_lt.mpr q)
    by_cases h2 : nuF sh d k = nuF sh d i
    · have h2' : vI sh d k = vI sh d i := congrArg Int64.toInt h2
      by_cases h3 : k < i
      · rw [if_pos (Or.inr ⟨h2, h3⟩), if_neg h1', if_pos h3, if_pos h2']
      · rw [if_neg (fun q => q.elim h1 (fun z => h3 z.2)), if_neg h1', if_neg h3]
    · have h2' : ¬ vI sh d k = vI sh d i := fun q => h2 (Int64.toInt_inj.mp q)
      rw [if_neg (fun q => q.elim h1 (fun z => h2 z.1)), if_neg h1', if_neg h2', ite_self]
section RK
variable {sh nu : Nat → Int64} {s : Nat → Nat → Int64} {gp : Nat → Int32} {d lt cn : Nat}
theorem ca_eq (h : dRel sh nu s gp d lt cn) {v : Int64} (hv : -1 ≤ v.toInt) : caF nu gp lt v cn = gtC (vI sh d) v.toInt cn := by
  show natA (fun k => if gp (slF lt k) = 0 ∧ v < nu (slF lt k) then 1 else 0) cn = natA (fun k => if v.toInt < vI sh d k then 1 else 0) cn
  rw [natA_rev (fun k => if v.toInt < vI sh d k then 1 else 0)]
  refine natA_congr cn (fun k hk => ?_)
  have hm : (-1 : Int64).toInt = -1 := by decide +kernel
  by_cases hg : gp (slF lt k) = 0
  · have e := (dr_nu h hk hg).1
    by_cases h2 : v < nu (slF lt k)
    · rw [if_pos ⟨hg, h2⟩, if_pos (by unfold vI; rw [e]; exact Int64.lt_iff_toInt_lt.mp h2)]
    · rw [if_neg (fun q => h2 q.2), if_neg (by unfold vI; rw [e]; exact fun q => h2 (Int64.lt_iff_toInt_lt.mpr q))]
  · have e := dr_gap h hk hg
    rw [if_neg (fun q => hg q.1), if_neg (by unfold vI; rw [e, hm]; omega)]
theorem gr_num (h : dRel sh nu s gp d lt cn) (hcn : cn ≤ 100) {y : Int32} {j : Nat} (hj : j < cn) : grOK nu gp lt cn y j ↔ 0 ≤ vI sh d (cn - 1 - j) ∧ (gtC (vI sh d) (vI sh d (cn - 1 - j)) cn : Int) < y.toInt ∧ y.toInt ≤ (gtC (vI sh d) (vI sh d (cn - 1 - j)) cn : Int) + (eqC (vI sh d) (vI sh d (cn - 1 - j)) cn : Int) := by
  have h0 : (0 : Int64).toInt = 0 := rfl
  have h1 : (1 : Int64).toInt = 1 := by decide +kernel
  unfold grOK
  by_cases hg : gp (slF lt j) = 0
  · obtain ⟨e, e2, e3⟩ := dr_nu h hj hg
    have ev : vI sh d (cn - 1 - j) = (nu (slF lt j)).toInt := congrArg Int64.toInt e
    have em : (nu (slF lt j) - 1).toInt = (nu (slF lt j)).toInt - 1 := by
      rw [Int64.toInt_sub, h1, Int.bmod_eq_of_le (by omega) (by omega)]
    have c1 := caF_le nu gp lt (nu (slF lt j)) cn
    have c2 := caF_le nu gp lt (nu (slF lt j) - 1) cn
    rw [ca_eq h (by omega)] at c1 ⊢
    rw [ca_eq h (by omega), em, gt_eq] at c2 ⊢
    rw [Int32.le_iff_toInt_le, Int32.lt_iff_toInt_lt, nI_toInt (by omega), nI_toInt (by omega), ev]
    constructor
    · rintro ⟨-, q1, q2⟩
      refine ⟨e2, by omega, by omega⟩
    · rintro ⟨-, q1, q2⟩
      refine ⟨hg, by omega, by omega⟩
  · have e := dr_gap h hj hg
    have ev : vI sh d (cn - 1 - j) = -1 := by
      unfold vI
      rw [e]
      decide +kernel
    constructor
    · intro q
      exact absurd q.1 hg
    · intro q
      have := q.1
      omega
theorem rk_num {y : Int32} (hy : 1 ≤ y.toInt) (hcn : cn ≤ 100) {i : Nat} (hi : i < cn) : rkOK sh d cn y i ↔ 0 ≤ vI sh d i ∧ (gtC (vI sh d) (vI sh d i) cn : Int) + (eqC (vI sh d) (vI sh d i) i : Int) + 1 = y.toInt := by
  unfold rkOK
  have h0 : (0 : Int64).toInt = 0 := rfl
  have c1 := ahF_le sh d i cn
  have e1 := ah_eq (sh := sh) (d := d) (Nat.le_of_lt hi)
  have hy2 := Int32.toInt_lt y
  rw [← Int32.toInt_inj, nI_toInt (by omega), Int32.toInt_sub, nI_toInt (by omega), Int.bmod_eq_of_le (by omega) (by omega), Int64.le_iff_toInt_le, h0]
  show 0 ≤ vI sh d i ∧ _ ↔ _
  rw [e1]
  constructor
  · rintro ⟨q1, q2⟩
    exact ⟨q1, by omega⟩
  · rintro ⟨q1, q2⟩
    exact ⟨q1, by omega⟩
theorem rank_ok (h : dRel sh nu s gp d lt cn) (hcn : cn ≤ 100) {y : Int32} (hy : 1 ≤ y.toInt) {r r' : Option Value} (hc : ((∀ j, j < cn → ¬ grOK nu gp lt cn y j) ∧ r = some (.long (-4))) ∨ ∃ i, i < cn ∧ grOK nu gp lt cn y i ∧ r = some (.long (nu (slF lt i)))) (hm : ((∀ j, j < cn → ¬ rkOK sh d cn y j) ∧ r' = some (.long (-4))) ∨ ∃ i, i < cn ∧ rkOK sh d cn y i ∧ r' = some (.long (nuF sh d i))) : r = r' := by
  have hA : ∀ i, i < cn → rkOK sh d cn y i → grOK nu gp lt cn y (cn - 1 - i) := by
    intro i hi q
    rw [rk_num hy hcn hi] at q
    rw [gr_num h hcn (by omega), show cn - 1 - (cn - 1 - i) = i by omega]
    have m := natA_mono (fun k => if vI sh d k = vI sh d i then 1 else 0) (i + 1) (cn - (i + 1))
    rw [show i + 1 + (cn - (i + 1)) = cn by omega, natA_s, if_pos rfl] at m
    have m' : eqC (vI sh d) (vI sh d i) i + 1 ≤ eqC (vI sh d) (vI sh d i) cn := m
    exact ⟨q.1, by omega, by omega⟩
  have hU : ∀ i j, i < cn → j < cn → grOK nu gp lt cn y i → grOK nu gp lt cn y j → ¬ vI sh d (cn - 1 - i) < vI sh d (cn - 1 - j) := by
    intro i j hi hj q1 q2 z
    rw [gr_num h hcn hi] at q1
    rw [gr_num h hcn hj] at q2
    have g1 := gt_anti (V := vI sh d) (show vI sh d (cn - 1 - i) ≤ vI sh d (cn - 1 - j) - 1 by omega) cn
    rw [gt_eq] at g1
    omega
  rcases hc with ⟨c1, rfl⟩ | ⟨j, hj, c1, rfl⟩
  · rcases hm with ⟨-, rfl⟩ | ⟨i, hi, m1, rfl⟩
    · rfl
    · exact absurd (hA i hi m1) (c1 _ (by omega))
  · rcases hm with ⟨m1, rfl⟩ | ⟨i, hi, m1, rfl⟩
    · have c2 := (gr_num h hcn hj).mp c1
      obtain ⟨t, t1, t2, t3⟩ := natA_cross (fun k => if vI sh d k = vI sh d (cn - 1 - j) then 1 else 0) (fun k => by split <;> omega) (gtC (vI sh d) (vI sh d (cn - 1 - j)) cn) (y.toInt.toNat - 1) cn (by omega) (by
        show _ < _ + eqC (vI sh d) (vI sh d (cn - 1 - j)) cn
        omega)
      have t4 : vI sh d t = vI sh d (cn - 1 - j) := by
        by_cases z : vI sh d t = vI sh d (cn - 1 - j)
        · exact z
        · rw [if_neg z] at t2
          cases t2
      refine absurd ((rk_num hy hcn t1).mpr ?_) (m1 t t1)
      rw [t4]
      refine ⟨c2.1, ?_⟩
      show _ + ((natA (fun k => if vI sh d k = vI sh d (cn - 1 - j) then 1 else 0) t : Nat) : Int) + 1 = _
      omega
    · have c3 := hA i hi m1
      have u1 := hU j (cn - 1 - i) hj (by omega) c1 c3
      have u2 := hU (cn - 1 - i) j (by omega) hj c3 c1
      rw [show cn - 1 - (cn - 1 - i) = i by omega] at u1 u2
      rw [← (dr_nu h hj c1.1).1]
      have e : vI sh d (cn - 1 - j) = vI sh d i := by omega
      rw [Int64.toInt_inj.mp e]
end RK
