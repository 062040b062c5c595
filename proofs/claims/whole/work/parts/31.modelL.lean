/-! ===== the reference: the cheapest cuts ===== -/
def cst (pr : Nat → Int32) (k : Nat) : Int32 := nI (k / 121) * pr 0 + nI (k / 11 % 11) * pr 1 + nI (k % 11) * pr 2
def tC (k : Nat) : Nat → Int32 := t3F (fun _ => 0) (nI (k / 121)) (nI (k / 11 % 11)) (nI (k % 11))
def okX (sh : Nat → Int64) (t a14 a15 : Nat → Int32) (lim oft : Int32) (d : Nat) : Prop := a14 d = 0 ∨ okD sh t a14 a15 lim oft d
def gdP (sh : Nat → Int64) (t a14 a15 : Nat → Int32) (lim oft : Int32) (n : Nat) : Prop := ∀ d, d < n → okX sh t a14 a15 lim oft d
theorem zfold_0 {α : Type} (f : Nat → α → α) (x : α) : zfold f 0 x = x := rfl
theorem s3F_congr {sh : Nat → Int64} {t t1 : Nat → Int32} (h : ∀ q, q < 3 → t q = t1 q) (p : Nat) : ∀ n, n ≤ 3 → s3F sh t p n = s3F sh t1 p n
  | 0, _ => by
    unfold s3F
    rw [zfold_0, zfold_0]
  | n + 1, hn => by rw [s3F_s, s3F_s, s3F_congr h p n (by omega), h n (by omega)]
theorem abF_congr {sh : Nat → Int64} {t t1 : Nat → Int32} (h : ∀ q, q < 3 → t q = t1 q) (lim : Int32) (d : Nat) : ∀ n, abF sh t lim d n = abF sh t1 lim d n
  | 0 => by
    unfold abF
    rw [zfold_0, zfold_0]
  | n + 1 => by rw [abF_s, abF_s, abF_congr h lim d n, s3F_congr h _ 3 (Nat.le_refl 3)]
theorem gdP_congr {sh : Nat → Int64} {t t1 a14 a15 : Nat → Int32} {lim oft : Int32} (h : ∀ q, q < 3 → t q = t1 q) (n : Nat) : gdP sh t a14 a15 lim oft n ↔ gdP sh t1 a14 a15 lim oft n := by
  unfold gdP okX okD kpP
  constructor
  · intro g d hd
    rw [← abF_congr h]
    exact g d hd
  · intro g d hd
    rw [abF_congr h]
    exact g d hd
theorem t3F_in (t t1 : Nat → Int32) (x y z : Int32) : ∀ q, q < 3 → t3F t x y z q = t3F t1 x y z q := by
  intro q hq
  rcases (show q = 0 ∨ q = 1 ∨ q = 2 by omega) with e | e | e <;> subst e <;> rfl
/-- behind k of the 1331 cuts: what is best -/
def bsI (pr : Nat → Int32) (gd : Nat → Prop) (k : Nat) (bs : Nat → Int32) : Prop := (bs 3 = -1 ∧ ∀ i, i < k → ¬ gd i) ∨ ∃ j, j < k ∧ gd j ∧ bs 3 = cst pr j ∧ bs 0 = nI (j / 121) ∧ bs 1 = nI (j / 11 % 11) ∧ bs 2 = nI (j % 11) ∧ (∀ i, i < k → gd i → ¬ cst pr i < cst pr j) ∧ ∀ i, i < j → gd i → cst pr j < cst pr i
theorem bsI_no {pr : Nat → Int32} {gd : Nat → Prop} {k : Nat} {bs : Nat → Int32} (h : bsI pr gd k bs) (hg : ¬ gd k) : bsI pr gd (k + 1) bs := by
  rcases h with ⟨h1, h2⟩ | ⟨j, h1, h2, h3, h4, h5, h6, h7, h8⟩
  · refine Or.inl ⟨h1, fun i hi => ?_⟩
    rcases (show i < k ∨ i = k by omega) with e | e
    · exact h2 i e
    · rw [e]; exact hg
  · refine Or.inr ⟨j, by omega, h2, h3, h4, h5, h6, fun i hi => ?_, h8⟩
    rcases (show i < k ∨ i = k by omega) with e | e
    · exact h7 i e
    · rw [e]; exact fun q => absurd q hg
theorem bsI_dear {pr : Nat → Int32} {gd : Nat → Prop} {k : Nat} {bs : Nat → Int32} (h : bsI pr gd k bs) (h0 : ¬ bs 3 < 0) (hc : ¬ cst pr k < bs 3) : bsI pr gd (k + 1) bs := by
  rcases h with ⟨h1, h2⟩ | ⟨j, h1, h2, h3, h4, h5, h6, h7, h8⟩
  · exact absurd (by rw [h1]; decide) h0
  · refine Or.inr ⟨j, by omega, h2, h3, h4, h5, h6, fun i hi => ?_, h8⟩
    rcases (show i < k ∨ i = k by omega) with e | e
    · exact h7 i e
    · rw [e, ← h3]; exact fun _ => hc
theorem bsI_new {pr : Nat → Int32} {gd : Nat → Prop} {k : Nat} {bs bs1 : Nat → Int32} (hpr : ∀ i, ¬ cst pr i < 0 ∨ 1331 ≤ i) (hk : k < 1331) (h : bsI pr gd k bs) (hg : gd k) (hc : bs 3 < 0 ∨ cst pr k < bs 3) (e3 : bs1 3 = cst pr k) (e0 : bs1 0 = nI (k / 121)) (e1 : bs1 1 = nI (k / 11 % 11)) (e2 : bs1 2 = nI (k % 11)) : bsI pr gd (k + 1) bs1 := by
  rcases h with ⟨h1, h2⟩ | ⟨j, h1, h2, h3, h4, h5, h6, h7, h8⟩
  · refine Or.inr ⟨k, by omega, hg, e3, e0, e1, e2, fun i hi hgi => ?_, fun i hi hgi => absurd hgi (h2 i hi)⟩
    rcases (show i < k ∨ i = k by omega) with e | e
    · exact absurd hgi (h2 i e)
    · rw [e]; exact Int32.lt_irrefl
  · have hlt : cst pr k < cst pr j := by
      rcases hc with hc | hc
      · rcases hpr j with e | e
        · rw [h3] at hc; exact absurd hc e
        · omega
      · rw [← h3]; exact hc
    refine Or.inr ⟨k, by omega, hg, e3, e0, e1, e2, fun i hi hgi => ?_, fun i hi hgi => ?_⟩
    · rcases (show i < k ∨ i = k by omega) with e | e
      · have h9 := h7 i e hgi
        rw [Int32.lt_iff_toInt_lt] at h9 hlt ⊢
        omega
      · rw [e]; exact Int32.lt_irrefl
    · have h9 := h7 i hi hgi
      rw [Int32.lt_iff_toInt_lt] at h9 hlt ⊢
      omega
theorem cst_0 {pr : Nat → Int32} (hp : ∀ q, q < 3 → zB (pr q) 0 1000) {k : Nat} (hk : k < 1331) : (cst pr k).toInt = (k / 121 : Nat) * (pr 0).toInt + (k / 11 % 11 : Nat) * (pr 1).toInt + (k % 11 : Nat) * (pr 2).toInt := by
  have h0 := hp 0 (by omega)
  have h1 := hp 1 (by omega)
  have h2 := hp 2 (by omega)
  unfold zB at h0 h1 h2
  have k0 : k / 121 ≤ 10 := by omega
  have k1 : k / 11 % 11 ≤ 10 := by omega
  have k2 : k % 11 ≤ 10 := by omega
  have m0 := zmul_le (x := ((k / 121 : Nat) : Int)) (y := (pr 0).toInt) (a := 10) (b := 1000) (by omega) (by omega) (by decide) (by decide)
  have m1 := zmul_le (x := ((k / 11 % 11 : Nat) : Int)) (y := (pr 1).toInt) (a := 10) (b := 1000) (by omega) (by omega) (by decide) (by decide)
  have m2 := zmul_le (x := ((k % 11 : Nat) : Int)) (y := (pr 2).toInt) (a := 10) (b := 1000) (by omega) (by omega) (by decide) (by decide)
  unfold cst
  rw [Int32.toInt_add, Int32.toInt_add, Int32.toInt_mul, Int32.toInt_mul, Int32.toInt_mul, nI_toInt (by omega), nI_toInt (by omega), nI_toInt (by omega)]
  rw [Int.bmod_eq_of_le (n := ((k / 121 : Nat) : Int) * (pr 0).toInt) (by omega) (by omega), Int.bmod_eq_of_le (n := ((k / 11 % 11 : Nat) : Int) * (pr 1).toInt) (by omega) (by omega), Int.bmod_eq_of_le (n := ((k % 11 : Nat) : Int) * (pr 2).toInt) (by omega) (by omega)]
  rw [Int.bmod_eq_of_le (n := ((k / 121 : Nat) : Int) * (pr 0).toInt + ((k / 11 % 11 : Nat) : Int) * (pr 1).toInt) (by omega) (by omega)]
  rw [Int.bmod_eq_of_le (by omega) (by omega)]
theorem cst_n {pr : Nat → Int32} (hp : ∀ q, q < 3 → zB (pr q) 0 1000) (k : Nat) : ¬ cst pr k < 0 ∨ 1331 ≤ k := by
  by_cases hk : k < 1331
  · left
    have h := cst_0 hp hk
    have h0 := hp 0 (by omega)
    have h1 := hp 1 (by omega)
    have h2 := hp 2 (by omega)
    unfold zB at h0 h1 h2
    have m0 : 0 ≤ ((k / 121 : Nat) : Int) * (pr 0).toInt := Int.mul_nonneg (by omega) h0.1
    have m1 : 0 ≤ ((k / 11 % 11 : Nat) : Int) * (pr 1).toInt := Int.mul_nonneg (by omega) h1.1
    have m2 : 0 ≤ ((k % 11 : Nat) : Int) * (pr 2).toInt := Int.mul_nonneg (by omega) h2.1
    rw [Int32.lt_iff_toInt_lt, h]
    have z : (0 : Int32).toInt = 0 := rfl
    omega
  · right
    omega
set_option maxHeartbeats 4000000 in
set_option maxRecDepth 100000 in
theorem lp_ch_119 {X : ZX} {post : Option Value → ZW → Prop} (hX : ZOK X 6 cX6_cheapest 1) (hR : ZRet X (some .int) post) (a : Nat → Nat → Int32) (b : Nat → Nat → Int64) (c : Nat → Int32) (hok : okM (a 15)) (t bs : Nat → Int32) (wh cd : Nat) (cs : Int32) (K1 : gdP (b 16) t (a 14) (a 15) (c 1) (c 2) 4 → ZG X 162 [some (.ref 0), some (.int (nI wh)), some (.int (nI cd)), some (.int cs), some (.int (nI 1)), none] [] (WM (va_up (va_up a 18 t) 19 bs) b c)) (K0 : ¬ gdP (b 16) t (a 14) (a 15) (c 1) (c 2) 4 → ZG X 162 [some (.ref 0), some (.int (nI wh)), some (.int (nI cd)), some (.int cs), some (.int (nI 0)), none] [] (WM (va_up (va_up a 18 t) 19 bs) b c)) : ∀ (n k g : Nat), k ≤ 4 → 4 < k + n → ((g = 1 ∧ gdP (b 16) t (a 14) (a 15) (c 1) (c 2) k) ∨ (g = 0 ∧ ¬ gdP (b 16) t (a 14) (a 15) (c 1) (c 2) k)) → ZG X 119 [some (.ref 0), some (.int (nI wh)), some (.int (nI cd)), some (.int cs), some (.int (nI g)), some (.int (nI k))] [] (WM (va_up (va_up a 18 t) 19 bs) b c) := by
  intro n
  induction n with
  | zero => intro k g z1 z2; omega
  | succ n ih =>
    intro k g hk1 hk2 hg
    refine z_iload hX dX6_cheapest_119 rfl ?_
    refine z_iconst (v := nI 4) hX dX6_cheapest_121 rfl ?_
    first | with_reducible refine z_icmp_geN (tgt := 162) hX dX6_cheapest_122 (by decide) (by omega) (by omega) (fun c_122 => ?_) (fun c_122 => ?_) | refine z_icmp_ge (tgt := 162) hX dX6_cheapest_122 (by decide) (fun c_122 => ?_) (fun c_122 => ?_)
    · -- 122 t
      have zk : k = 4 := by omega
      subst zk
      refine z_forget (ls' := [some (.ref 0), some _, some _, some _, some _, none]) ⟨rfl, rfl, rfl, rfl, rfl, trivial⟩ ?_
      rcases hg with ⟨rfl, hg⟩ | ⟨rfl, hg⟩
      · exact K1 hg
      · exact K0 hg
    · -- 122 f
      obtain ⟨zmn, zmn1, zmn2⟩ := hok k (by omega)
      have zcl : (a 15 k).toNatClampNeg = zmn := by rw [zmn2, nI_clamp (by omega)]
      have gs : ∀ (h1 : gdP (b 16) t (a 14) (a 15) (c 1) (c 2) k) (h2 : okX (b 16) t (a 14) (a 15) (c 1) (c 2) k), gdP (b 16) t (a 14) (a 15) (c 1) (c 2) (k + 1) := fun h1 h2 d hd => by
        rcases (show d < k ∨ d = k by omega) with e | e
        · exact h1 d e
        · rw [e]; exact h2
      refine z_iload hX dX6_cheapest_125 rfl ?_
      refine z_if_eq (tgt := 153) hX dX6_cheapest_127 (by decide) (fun c_127 => ?_) (fun c_127 => ?_)
      · -- 127 t
        have hg2 : ¬ gdP (b 16) t (a 14) (a 15) (c 1) (c 2) k := by
          rcases hg with ⟨e, hg⟩ | ⟨e, hg⟩
          · rw [e] at c_127
            exact absurd c_127 (by decide)
          · exact hg
        refine z_iconst (v := nI 0) hX dX6_cheapest_153 rfl ?_
        refine z_istore (ls' := [_, _, _, _, _, _]) hX dX6_cheapest_154 (Nat.le_of_ble_eq_true rfl) rfl ?_
        first | refine z_iincN (b := 1) (ls' := [_, _, _, _, _, _]) hX dX6_cheapest_156 rfl rfl rfl ?_ | refine z_iinc (ls' := [_, _, _, _, _, _]) hX dX6_cheapest_156 rfl rfl ?_
        refine z_goto (tgt := 119) hX dX6_cheapest_159 (by decide) ?_
        exact ih (k + 1) 0 (by omega) (by omega) (Or.inr ⟨rfl, fun q => hg2 (fun d hd => q d (by omega))⟩)
      · -- 127 f
        have hg2 : gdP (b 16) t (a 14) (a 15) (c 1) (c 2) k := by
          rcases hg with ⟨e, hg⟩ | ⟨e, hg⟩
          · exact hg
          · rw [e] at c_127
            exact absurd rfl c_127
        refine z_aload_n hX dX6_cheapest_130 rfl ?_
        refine z_get hX dX6_cheapest_131 f_6_51 rfl rfl ?_
        refine z_iload hX dX6_cheapest_134 rfl ?_
        refine z_zald hX dX6_cheapest_136 rfl (by omega) (by decide) ?_
        refine z_if_eq (tgt := 149) hX dX6_cheapest_137 (by decide) (fun c_137 => ?_) (fun c_137 => ?_)
        · -- 137 t
          refine z_iconst (v := nI 1) hX dX6_cheapest_149 rfl ?_
          refine z_goto (tgt := 154) hX dX6_cheapest_150 (by decide) ?_
          refine z_istore (ls' := [_, _, _, _, _, _]) hX dX6_cheapest_154 (Nat.le_of_ble_eq_true rfl) rfl ?_
          first | refine z_iincN (b := 1) (ls' := [_, _, _, _, _, _]) hX dX6_cheapest_156 rfl rfl rfl ?_ | refine z_iinc (ls' := [_, _, _, _, _, _]) hX dX6_cheapest_156 rfl rfl ?_
          refine z_goto (tgt := 119) hX dX6_cheapest_159 (by decide) ?_
          exact ih (k + 1) 1 (by omega) (by omega) (Or.inl ⟨rfl, gs hg2 (Or.inl c_137)⟩)
        · -- 137 f
          refine z_aload_n hX dX6_cheapest_140 rfl ?_
          refine z_iload hX dX6_cheapest_141 rfl ?_
          refine z_callV0 hX dX6_cheapest_143 mv_6_170 (c_X6_isKeptAt (va_up (va_up a 18 t) 19 bs) b c k zmn (by omega) zmn1 zmn2) (by decide) rfl rfl rfl rfl (Nat.le_of_ble_eq_true rfl) (fun r w1 hp _ => ?_)
          obtain ⟨rfl, ⟨hK1, rfl⟩ | ⟨hK1, rfl⟩⟩ := hp
          · -- 143 T
            refine z_if_eq (tgt := 153) hX dX6_cheapest_146 (by decide) (fun c => absurd c (by decide)) (fun _ => ?_)
            refine z_iconst (v := nI 1) hX dX6_cheapest_149 rfl ?_
            refine z_goto (tgt := 154) hX dX6_cheapest_150 (by decide) ?_
            refine z_istore (ls' := [_, _, _, _, _, _]) hX dX6_cheapest_154 (Nat.le_of_ble_eq_true rfl) rfl ?_
            first | refine z_iincN (b := 1) (ls' := [_, _, _, _, _, _]) hX dX6_cheapest_156 rfl rfl rfl ?_ | refine z_iinc (ls' := [_, _, _, _, _, _]) hX dX6_cheapest_156 rfl rfl ?_
            refine z_goto (tgt := 119) hX dX6_cheapest_159 (by decide) ?_
            exact ih (k + 1) 1 (by omega) (by omega) (Or.inl ⟨rfl, gs hg2 (Or.inr (by unfold okD; rw [zcl]; exact hK1))⟩)
          · -- 143 F
            refine z_if_eq (tgt := 153) hX dX6_cheapest_146 (by decide) (fun _ => ?_) (fun c => absurd c (by decide))
            refine z_iconst (v := nI 0) hX dX6_cheapest_153 rfl ?_
            refine z_istore (ls' := [_, _, _, _, _, _]) hX dX6_cheapest_154 (Nat.le_of_ble_eq_true rfl) rfl ?_
            first | refine z_iincN (b := 1) (ls' := [_, _, _, _, _, _]) hX dX6_cheapest_156 rfl rfl rfl ?_ | refine z_iinc (ls' := [_, _, _, _, _, _]) hX dX6_cheapest_156 rfl rfl ?_
            refine z_goto (tgt := 119) hX dX6_cheapest_159 (by decide) ?_
            refine ih (k + 1) 0 (by omega) (by omega) (Or.inr ⟨rfl, fun q => ?_⟩)
            rcases q k (by omega) with e | e
            · exact c_137 e
            · unfold okD at e
              rw [zcl] at e
              exact hK1 e
set_option maxHeartbeats 4000000 in
set_option maxRecDepth 100000 in
theorem lp_ch_23 {X : ZX} {post : Option Value → ZW → Prop} (hX : ZOK X 6 cX6_cheapest 1) (hR : ZRet X (some .int) post) (a : Nat → Nat → Int32) (b : Nat → Nat → Int64) (c : Nat → Int32) (hok : okM (a 15)) (hpr : ∀ q, q < 3 → zB (a 17 q) 0 1000) (wh : Nat) (hwh : wh < 4) (hpost : ∀ t bs, bsI (a 17) (fun i => gdP (b 16) (tC i) (a 14) (a 15) (c 1) (c 2) 4) 1331 bs → post (some (.int (bs wh))) (WM (va_up (va_up a 18 t) 19 bs) b c)) : ∀ (n k : Nat) (t bs : Nat → Int32), k ≤ 1331 → 1331 < k + n → bsI (a 17) (fun i => gdP (b 16) (tC i) (a 14) (a 15) (c 1) (c 2) 4) k bs → ZG X 23 [some (.ref 0), some (.int (nI wh)), some (.int (nI k)), none, none, none] [] (WM (va_up (va_up a 18 t) 19 bs) b c) := by
  intro n
  induction n with
  | zero => intro k t bs z1 z2; omega
  | succ n ih =>
    intro k t bs hk1 hk2 hI
    refine z_iload_n hX dX6_cheapest_23 rfl ?_
    refine z_sipush (v := nI 1331) hX dX6_cheapest_24 rfl ?_
    first | with_reducible refine z_icmp_geN (tgt := 216) hX dX6_cheapest_27 (by decide) (by omega) (by omega) (fun c_27 => ?_) (fun c_27 => ?_) | refine z_icmp_ge (tgt := 216) hX dX6_cheapest_27 (by decide) (fun c_27 => ?_) (fun c_27 => ?_)
    · -- 27 t
      have zk : k = 1331 := by omega
      subst zk
      refine z_aload_n hX dX6_cheapest_216 rfl ?_
      refine z_get hX dX6_cheapest_217 f_6_66 rfl rfl ?_
      refine z_iload_n hX dX6_cheapest_220 rfl ?_
      first | refine z_iald hX dX6_cheapest_221 rfl (by omega) (by decide) ?_ | refine z_stld (nm := "FROM") (xs := zFROM) hX dX6_cheapest_221 (fun _ _ _ _ h => h.1) (by show _ < 24; omega) (by decide) ?_ | refine z_stld (nm := "TO") (xs := zTO) hX dX6_cheapest_221 (fun _ _ _ _ h => h.2.1) (by show _ < 24; omega) (by decide) ?_ | refine z_stld (nm := "FALL") (xs := zFALL) hX dX6_cheapest_221 (fun _ _ _ _ h => h.2.2.1) (by show _ < 81; omega) (by decide) ?_
      refine z_iret hX hR dX6_cheapest_222 ?_
      exact hpost t bs hI
    · -- 27 f
      refine z_aload_n hX dX6_cheapest_30 rfl ?_
      refine z_iload_n hX dX6_cheapest_31 rfl ?_
      refine z_bipush (v := nI 121) hX dX6_cheapest_32 rfl ?_
      first | with_reducible refine z_idivN hX dX6_cheapest_34 (by omega) (by decide) (by decide) ?_ | refine z_idiv hX dX6_cheapest_34 (by decide) ?_
      refine z_iload_n hX dX6_cheapest_35 rfl ?_
      refine z_bipush (v := nI 11) hX dX6_cheapest_36 rfl ?_
      first | with_reducible refine z_idivN hX dX6_cheapest_38 (by omega) (by decide) (by decide) ?_ | refine z_idiv hX dX6_cheapest_38 (by decide) ?_
      refine z_bipush (v := nI 11) hX dX6_cheapest_39 rfl ?_
      first | with_reducible refine z_iremN hX dX6_cheapest_41 (by omega) (by decide) (by decide) ?_ | refine z_irem hX dX6_cheapest_41 (by decide) ?_
      refine z_iload_n hX dX6_cheapest_42 rfl ?_
      refine z_bipush (v := nI 11) hX dX6_cheapest_43 rfl ?_
      first | with_reducible refine z_iremN hX dX6_cheapest_45 (by omega) (by decide) (by decide) ?_ | refine z_irem hX dX6_cheapest_45 (by decide) ?_
      refine z_callV0 hX dX6_cheapest_46 mv_6_166 (c_X6_setTenths (va_up (va_up a 18 t) 19 bs) b c _ _ _) (by decide) rfl rfl rfl rfl (Nat.le_of_ble_eq_true rfl) (fun r w1 hp _ => ?_)
      obtain ⟨rfl, rfl⟩ := hp
      refine z_aload_n hX dX6_cheapest_49 rfl ?_
      refine z_get hX dX6_cheapest_50 f_6_63 rfl rfl ?_
      refine z_iconst (v := nI 0) hX dX6_cheapest_53 rfl ?_
      first | refine z_iald hX dX6_cheapest_54 rfl (by omega) (by decide) ?_ | refine z_stld (nm := "FROM") (xs := zFROM) hX dX6_cheapest_54 (fun _ _ _ _ h => h.1) (by show _ < 24; omega) (by decide) ?_ | refine z_stld (nm := "TO") (xs := zTO) hX dX6_cheapest_54 (fun _ _ _ _ h => h.2.1) (by show _ < 24; omega) (by decide) ?_ | refine z_stld (nm := "FALL") (xs := zFALL) hX dX6_cheapest_54 (fun _ _ _ _ h => h.2.2.1) (by show _ < 81; omega) (by decide) ?_
      refine z_aload_n hX dX6_cheapest_55 rfl ?_
      refine z_get hX dX6_cheapest_56 f_6_60 rfl rfl ?_
      refine z_iconst (v := nI 0) hX dX6_cheapest_59 rfl ?_
      first | refine z_iald hX dX6_cheapest_60 rfl (by omega) (by decide) ?_ | refine z_stld (nm := "FROM") (xs := zFROM) hX dX6_cheapest_60 (fun _ _ _ _ h => h.1) (by show _ < 24; omega) (by decide) ?_ | refine z_stld (nm := "TO") (xs := zTO) hX dX6_cheapest_60 (fun _ _ _ _ h => h.2.1) (by show _ < 24; omega) (by decide) ?_ | refine z_stld (nm := "FALL") (xs := zFALL) hX dX6_cheapest_60 (fun _ _ _ _ h => h.2.2.1) (by show _ < 81; omega) (by decide) ?_
      first | with_reducible refine z_imulN hX dX6_cheapest_61 ?_ | refine z_imul hX dX6_cheapest_61 ?_
      refine z_aload_n hX dX6_cheapest_62 rfl ?_
      refine z_get hX dX6_cheapest_63 f_6_63 rfl rfl ?_
      refine z_iconst (v := nI 1) hX dX6_cheapest_66 rfl ?_
      first | refine z_iald hX dX6_cheapest_67 rfl (by omega) (by decide) ?_ | refine z_stld (nm := "FROM") (xs := zFROM) hX dX6_cheapest_67 (fun _ _ _ _ h => h.1) (by show _ < 24; omega) (by decide) ?_ | refine z_stld (nm := "TO") (xs := zTO) hX dX6_cheapest_67 (fun _ _ _ _ h => h.2.1) (by show _ < 24; omega) (by decide) ?_ | refine z_stld (nm := "FALL") (xs := zFALL) hX dX6_cheapest_67 (fun _ _ _ _ h => h.2.2.1) (by show _ < 81; omega) (by decide) ?_
      refine z_aload_n hX dX6_cheapest_68 rfl ?_
      refine z_get hX dX6_cheapest_69 f_6_60 rfl rfl ?_
      refine z_iconst (v := nI 1) hX dX6_cheapest_72 rfl ?_
      first | refine z_iald hX dX6_cheapest_73 rfl (by omega) (by decide) ?_ | refine z_stld (nm := "FROM") (xs := zFROM) hX dX6_cheapest_73 (fun _ _ _ _ h => h.1) (by show _ < 24; omega) (by decide) ?_ | refine z_stld (nm := "TO") (xs := zTO) hX dX6_cheapest_73 (fun _ _ _ _ h => h.2.1) (by show _ < 24; omega) (by decide) ?_ | refine z_stld (nm := "FALL") (xs := zFALL) hX dX6_cheapest_73 (fun _ _ _ _ h => h.2.2.1) (by show _ < 81; omega) (by decide) ?_
      first | with_reducible refine z_imulN hX dX6_cheapest_74 ?_ | refine z_imul hX dX6_cheapest_74 ?_
      first | with_reducible refine z_iaddN hX dX6_cheapest_75 ?_ | refine z_iadd hX dX6_cheapest_75 ?_
      refine z_aload_n hX dX6_cheapest_76 rfl ?_
      refine z_get hX dX6_cheapest_77 f_6_63 rfl rfl ?_
      refine z_iconst (v := nI 2) hX dX6_cheapest_80 rfl ?_
      first | refine z_iald hX dX6_cheapest_81 rfl (by omega) (by decide) ?_ | refine z_stld (nm := "FROM") (xs := zFROM) hX dX6_cheapest_81 (fun _ _ _ _ h => h.1) (by show _ < 24; omega) (by decide) ?_ | refine z_stld (nm := "TO") (xs := zTO) hX dX6_cheapest_81 (fun _ _ _ _ h => h.2.1) (by show _ < 24; omega) (by decide) ?_ | refine z_stld (nm := "FALL") (xs := zFALL) hX dX6_cheapest_81 (fun _ _ _ _ h => h.2.2.1) (by show _ < 81; omega) (by decide) ?_
      refine z_aload_n hX dX6_cheapest_82 rfl ?_
      refine z_get hX dX6_cheapest_83 f_6_60 rfl rfl ?_
      refine z_iconst (v := nI 2) hX dX6_cheapest_86 rfl ?_
      first | refine z_iald hX dX6_cheapest_87 rfl (by omega) (by decide) ?_ | refine z_stld (nm := "FROM") (xs := zFROM) hX dX6_cheapest_87 (fun _ _ _ _ h => h.1) (by show _ < 24; omega) (by decide) ?_ | refine z_stld (nm := "TO") (xs := zTO) hX dX6_cheapest_87 (fun _ _ _ _ h => h.2.1) (by show _ < 24; omega) (by decide) ?_ | refine z_stld (nm := "FALL") (xs := zFALL) hX dX6_cheapest_87 (fun _ _ _ _ h => h.2.2.1) (by show _ < 81; omega) (by decide) ?_
      first | with_reducible refine z_imulN hX dX6_cheapest_88 ?_ | refine z_imul hX dX6_cheapest_88 ?_
      first | with_reducible refine z_iaddN hX dX6_cheapest_89 ?_ | refine z_iadd hX dX6_cheapest_89 ?_
      refine z_top (y := cst (a 17) k) rfl ?_
      refine z_istore_n (ls' := [_, _, _, _, _, _]) hX dX6_cheapest_90 (Nat.le_of_ble_eq_true rfl) rfl ?_
      refine z_aload_n hX dX6_cheapest_91 rfl ?_
      refine z_get hX dX6_cheapest_92 f_6_66 rfl rfl ?_
      refine z_iconst (v := nI 3) hX dX6_cheapest_95 rfl ?_
      first | refine z_iald hX dX6_cheapest_96 rfl (by omega) (by decide) ?_ | refine z_stld (nm := "FROM") (xs := zFROM) hX dX6_cheapest_96 (fun _ _ _ _ h => h.1) (by show _ < 24; omega) (by decide) ?_ | refine z_stld (nm := "TO") (xs := zTO) hX dX6_cheapest_96 (fun _ _ _ _ h => h.2.1) (by show _ < 24; omega) (by decide) ?_ | refine z_stld (nm := "FALL") (xs := zFALL) hX dX6_cheapest_96 (fun _ _ _ _ h => h.2.2.1) (by show _ < 81; omega) (by decide) ?_
      refine z_if_lt (tgt := 113) hX dX6_cheapest_97 (by decide) (fun c_97 => ?_) (fun c_97 => ?_)
      · -- 97 t
        refine z_iconst (v := nI 1) hX dX6_cheapest_113 rfl ?_
        refine z_istore (ls' := [_, _, _, _, _, _]) hX dX6_cheapest_114 (Nat.le_of_ble_eq_true rfl) rfl ?_
        refine z_iconst (v := nI 0) hX dX6_cheapest_116 rfl ?_
        refine z_istore (ls' := [_, _, _, _, _, _]) hX dX6_cheapest_117 (Nat.le_of_ble_eq_true rfl) rfl ?_
        have hcg := gdP_congr (sh := b 16) (a14 := a 14) (a15 := a 15) (lim := c 1) (oft := c 2) (t3F_in t (fun _ => 0) (nI (k / 121)) (nI (k / 11 % 11)) (nI (k % 11))) 4
        refine lp_ch_119 hX hR a b c hok (t3F t (nI (k / 121)) (nI (k / 11 % 11)) (nI (k % 11))) bs wh k (cst (a 17) k) (fun hg => ?_) (fun hg => ?_) 5 0 1 (by omega) (by omega) (Or.inl ⟨rfl, fun d hd => by omega⟩)
        · -- 119 case 0
          refine z_iload hX dX6_cheapest_162 rfl ?_
          refine z_if_eq (tgt := 210) hX dX6_cheapest_164 (by decide) (fun c => absurd c (by decide)) (fun _ => ?_)
          refine z_aload_n hX dX6_cheapest_167 rfl ?_
          refine z_get hX dX6_cheapest_168 f_6_66 rfl rfl ?_
          refine z_iconst (v := nI 0) hX dX6_cheapest_171 rfl ?_
          refine z_aload_n hX dX6_cheapest_172 rfl ?_
          refine z_get hX dX6_cheapest_173 f_6_63 rfl rfl ?_
          refine z_iconst (v := nI 0) hX dX6_cheapest_176 rfl ?_
          first | refine z_iald hX dX6_cheapest_177 rfl (by omega) (by decide) ?_ | refine z_stld (nm := "FROM") (xs := zFROM) hX dX6_cheapest_177 (fun _ _ _ _ h => h.1) (by show _ < 24; omega) (by decide) ?_ | refine z_stld (nm := "TO") (xs := zTO) hX dX6_cheapest_177 (fun _ _ _ _ h => h.2.1) (by show _ < 24; omega) (by decide) ?_ | refine z_stld (nm := "FALL") (xs := zFALL) hX dX6_cheapest_177 (fun _ _ _ _ h => h.2.2.1) (by show _ < 81; omega) (by decide) ?_
          refine z_iast (w' := [_, _, _, _, _, _, _, _, _, _, _, _, _, _, _, _, _, _, _, _]) hX dX6_cheapest_178 rfl (by omega) (by decide) rfl ?_
          refine z_aload_n hX dX6_cheapest_179 rfl ?_
          refine z_get hX dX6_cheapest_180 f_6_66 rfl rfl ?_
          refine z_iconst (v := nI 1) hX dX6_cheapest_183 rfl ?_
          refine z_aload_n hX dX6_cheapest_184 rfl ?_
          refine z_get hX dX6_cheapest_185 f_6_63 rfl rfl ?_
          refine z_iconst (v := nI 1) hX dX6_cheapest_188 rfl ?_
          first | refine z_iald hX dX6_cheapest_189 rfl (by omega) (by decide) ?_ | refine z_stld (nm := "FROM") (xs := zFROM) hX dX6_cheapest_189 (fun _ _ _ _ h => h.1) (by show _ < 24; omega) (by decide) ?_ | refine z_stld (nm := "TO") (xs := zTO) hX dX6_cheapest_189 (fun _ _ _ _ h => h.2.1) (by show _ < 24; omega) (by decide) ?_ | refine z_stld (nm := "FALL") (xs := zFALL) hX dX6_cheapest_189 (fun _ _ _ _ h => h.2.2.1) (by show _ < 81; omega) (by decide) ?_
          refine z_iast (w' := [_, _, _, _, _, _, _, _, _, _, _, _, _, _, _, _, _, _, _, _]) hX dX6_cheapest_190 rfl (by omega) (by decide) rfl ?_
          refine z_aload_n hX dX6_cheapest_191 rfl ?_
          refine z_get hX dX6_cheapest_192 f_6_66 rfl rfl ?_
          refine z_iconst (v := nI 2) hX dX6_cheapest_195 rfl ?_
          refine z_aload_n hX dX6_cheapest_196 rfl ?_
          refine z_get hX dX6_cheapest_197 f_6_63 rfl rfl ?_
          refine z_iconst (v := nI 2) hX dX6_cheapest_200 rfl ?_
          first | refine z_iald hX dX6_cheapest_201 rfl (by omega) (by decide) ?_ | refine z_stld (nm := "FROM") (xs := zFROM) hX dX6_cheapest_201 (fun _ _ _ _ h => h.1) (by show _ < 24; omega) (by decide) ?_ | refine z_stld (nm := "TO") (xs := zTO) hX dX6_cheapest_201 (fun _ _ _ _ h => h.2.1) (by show _ < 24; omega) (by decide) ?_ | refine z_stld (nm := "FALL") (xs := zFALL) hX dX6_cheapest_201 (fun _ _ _ _ h => h.2.2.1) (by show _ < 81; omega) (by decide) ?_
          refine z_iast (w' := [_, _, _, _, _, _, _, _, _, _, _, _, _, _, _, _, _, _, _, _]) hX dX6_cheapest_202 rfl (by omega) (by decide) rfl ?_
          refine z_aload_n hX dX6_cheapest_203 rfl ?_
          refine z_get hX dX6_cheapest_204 f_6_66 rfl rfl ?_
          refine z_iconst (v := nI 3) hX dX6_cheapest_207 rfl ?_
          refine z_iload_n hX dX6_cheapest_208 rfl ?_
          refine z_iast (w' := [_, _, _, _, _, _, _, _, _, _, _, _, _, _, _, _, _, _, _, _]) hX dX6_cheapest_209 rfl (by omega) (by decide) rfl ?_
          first | refine z_iincN (b := 1) (ls' := [_, _, _, _, _, _]) hX dX6_cheapest_210 rfl rfl rfl ?_ | refine z_iinc (ls' := [_, _, _, _, _, _]) hX dX6_cheapest_210 rfl rfl ?_
          refine z_goto (tgt := 23) hX dX6_cheapest_213 (by decide) ?_
          refine z_forget (ls' := [some (.ref 0), some _, some _, none, none, none]) ⟨rfl, rfl, rfl, trivial⟩ ?_
          exact ih (k + 1) _ _ (by omega) (by omega) (bsI_new (cst_n hpr) (by omega) hI (hcg.mp hg) (Or.inl c_97) rfl rfl rfl rfl)
        · -- 119 case 1
          refine z_iload hX dX6_cheapest_162 rfl ?_
          refine z_if_eq (tgt := 210) hX dX6_cheapest_164 (by decide) (fun _ => ?_) (fun c => absurd c (by decide))
          first | refine z_iincN (b := 1) (ls' := [_, _, _, _, _, _]) hX dX6_cheapest_210 rfl rfl rfl ?_ | refine z_iinc (ls' := [_, _, _, _, _, _]) hX dX6_cheapest_210 rfl rfl ?_
          refine z_goto (tgt := 23) hX dX6_cheapest_213 (by decide) ?_
          refine z_forget (ls' := [some (.ref 0), some _, some _, none, none, none]) ⟨rfl, rfl, rfl, trivial⟩ ?_
          exact ih (k + 1) _ bs (by omega) (by omega) (bsI_no hI (fun q => hg (hcg.mpr q)))
      · -- 97 f
        refine z_iload_n hX dX6_cheapest_100 rfl ?_
        refine z_aload_n hX dX6_cheapest_101 rfl ?_
        refine z_get hX dX6_cheapest_102 f_6_66 rfl rfl ?_
        refine z_iconst (v := nI 3) hX dX6_cheapest_105 rfl ?_
        first | refine z_iald hX dX6_cheapest_106 rfl (by omega) (by decide) ?_ | refine z_stld (nm := "FROM") (xs := zFROM) hX dX6_cheapest_106 (fun _ _ _ _ h => h.1) (by show _ < 24; omega) (by decide) ?_ | refine z_stld (nm := "TO") (xs := zTO) hX dX6_cheapest_106 (fun _ _ _ _ h => h.2.1) (by show _ < 24; omega) (by decide) ?_ | refine z_stld (nm := "FALL") (xs := zFALL) hX dX6_cheapest_106 (fun _ _ _ _ h => h.2.2.1) (by show _ < 81; omega) (by decide) ?_
        refine z_icmp_lt (tgt := 113) hX dX6_cheapest_107 (by decide) (fun c_107 => ?_) (fun c_107 => ?_)
        · -- 107 t
          refine z_iconst (v := nI 1) hX dX6_cheapest_113 rfl ?_
          refine z_istore (ls' := [_, _, _, _, _, _]) hX dX6_cheapest_114 (Nat.le_of_ble_eq_true rfl) rfl ?_
          refine z_iconst (v := nI 0) hX dX6_cheapest_116 rfl ?_
          refine z_istore (ls' := [_, _, _, _, _, _]) hX dX6_cheapest_117 (Nat.le_of_ble_eq_true rfl) rfl ?_
          have hcg := gdP_congr (sh := b 16) (a14 := a 14) (a15 := a 15) (lim := c 1) (oft := c 2) (t3F_in t (fun _ => 0) (nI (k / 121)) (nI (k / 11 % 11)) (nI (k % 11))) 4
          refine lp_ch_119 hX hR a b c hok (t3F t (nI (k / 121)) (nI (k / 11 % 11)) (nI (k % 11))) bs wh k (cst (a 17) k) (fun hg => ?_) (fun hg => ?_) 5 0 1 (by omega) (by omega) (Or.inl ⟨rfl, fun d hd => by omega⟩)
          · -- 119 case 0
            refine z_iload hX dX6_cheapest_162 rfl ?_
            refine z_if_eq (tgt := 210) hX dX6_cheapest_164 (by decide) (fun c => absurd c (by decide)) (fun _ => ?_)
            refine z_aload_n hX dX6_cheapest_167 rfl ?_
            refine z_get hX dX6_cheapest_168 f_6_66 rfl rfl ?_
            refine z_iconst (v := nI 0) hX dX6_cheapest_171 rfl ?_
            refine z_aload_n hX dX6_cheapest_172 rfl ?_
            refine z_get hX dX6_cheapest_173 f_6_63 rfl rfl ?_
            refine z_iconst (v := nI 0) hX dX6_cheapest_176 rfl ?_
            first | refine z_iald hX dX6_cheapest_177 rfl (by omega) (by decide) ?_ | refine z_stld (nm := "FROM") (xs := zFROM) hX dX6_cheapest_177 (fun _ _ _ _ h => h.1) (by show _ < 24; omega) (by decide) ?_ | refine z_stld (nm := "TO") (xs := zTO) hX dX6_cheapest_177 (fun _ _ _ _ h => h.2.1) (by show _ < 24; omega) (by decide) ?_ | refine z_stld (nm := "FALL") (xs := zFALL) hX dX6_cheapest_177 (fun _ _ _ _ h => h.2.2.1) (by show _ < 81; omega) (by decide) ?_
            refine z_iast (w' := [_, _, _, _, _, _, _, _, _, _, _, _, _, _, _, _, _, _, _, _]) hX dX6_cheapest_178 rfl (by omega) (by decide) rfl ?_
            refine z_aload_n hX dX6_cheapest_179 rfl ?_
            refine z_get hX dX6_cheapest_180 f_6_66 rfl rfl ?_
            refine z_iconst (v := nI 1) hX dX6_cheapest_183 rfl ?_
            refine z_aload_n hX dX6_cheapest_184 rfl ?_
            refine z_get hX dX6_cheapest_185 f_6_63 rfl rfl ?_
            refine z_iconst (v := nI 1) hX dX6_cheapest_188 rfl ?_
            first | refine z_iald hX dX6_cheapest_189 rfl (by omega) (by decide) ?_ | refine z_stld (nm := "FROM") (xs := zFROM) hX dX6_cheapest_189 (fun _ _ _ _ h => h.1) (by show _ < 24; omega) (by decide) ?_ | refine z_stld (nm := "TO") (xs := zTO) hX dX6_cheapest_189 (fun _ _ _ _ h => h.2.1) (by show _ < 24; omega) (by decide) ?_ | refine z_stld (nm := "FALL") (xs := zFALL) hX dX6_cheapest_189 (fun _ _ _ _ h => h.2.2.1) (by show _ < 81; omega) (by decide) ?_
            refine z_iast (w' := [_, _, _, _, _, _, _, _, _, _, _, _, _, _, _, _, _, _, _, _]) hX dX6_cheapest_190 rfl (by omega) (by decide) rfl ?_
            refine z_aload_n hX dX6_cheapest_191 rfl ?_
            refine z_get hX dX6_cheapest_192 f_6_66 rfl rfl ?_
            refine z_iconst (v := nI 2) hX dX6_cheapest_195 rfl ?_
            refine z_aload_n hX dX6_cheapest_196 rfl ?_
            refine z_get hX dX6_cheapest_197 f_6_63 rfl rfl ?_
            refine z_iconst (v := nI 2) hX dX6_cheapest_200 rfl ?_
            first | refine z_iald hX dX6_cheapest_201 rfl (by omega) (by decide) ?_ | refine z_stld (nm := "FROM") (xs := zFROM) hX dX6_cheapest_201 (fun _ _ _ _ h => h.1) (by show _ < 24; omega) (by decide) ?_ | refine z_stld (nm := "TO") (xs := zTO) hX dX6_cheapest_201 (fun _ _ _ _ h => h.2.1) (by show _ < 24; omega) (by decide) ?_ | refine z_stld (nm := "FALL") (xs := zFALL) hX dX6_cheapest_201 (fun _ _ _ _ h => h.2.2.1) (by show _ < 81; omega) (by decide) ?_
            refine z_iast (w' := [_, _, _, _, _, _, _, _, _, _, _, _, _, _, _, _, _, _, _, _]) hX dX6_cheapest_202 rfl (by omega) (by decide) rfl ?_
            refine z_aload_n hX dX6_cheapest_203 rfl ?_
            refine z_get hX dX6_cheapest_204 f_6_66 rfl rfl ?_
            refine z_iconst (v := nI 3) hX dX6_cheapest_207 rfl ?_
            refine z_iload_n hX dX6_cheapest_208 rfl ?_
            refine z_iast (w' := [_, _, _, _, _, _, _, _, _, _, _, _, _, _, _, _, _, _, _, _]) hX dX6_cheapest_209 rfl (by omega) (by decide) rfl ?_
            first | refine z_iincN (b := 1) (ls' := [_, _, _, _, _, _]) hX dX6_cheapest_210 rfl rfl rfl ?_ | refine z_iinc (ls' := [_, _, _, _, _, _]) hX dX6_cheapest_210 rfl rfl ?_
            refine z_goto (tgt := 23) hX dX6_cheapest_213 (by decide) ?_
            refine z_forget (ls' := [some (.ref 0), some _, some _, none, none, none]) ⟨rfl, rfl, rfl, trivial⟩ ?_
            exact ih (k + 1) _ _ (by omega) (by omega) (bsI_new (cst_n hpr) (by omega) hI (hcg.mp hg) (Or.inr c_107) rfl rfl rfl rfl)
          · -- 119 case 1
            refine z_iload hX dX6_cheapest_162 rfl ?_
            refine z_if_eq (tgt := 210) hX dX6_cheapest_164 (by decide) (fun _ => ?_) (fun c => absurd c (by decide))
            first | refine z_iincN (b := 1) (ls' := [_, _, _, _, _, _]) hX dX6_cheapest_210 rfl rfl rfl ?_ | refine z_iinc (ls' := [_, _, _, _, _, _]) hX dX6_cheapest_210 rfl rfl ?_
            refine z_goto (tgt := 23) hX dX6_cheapest_213 (by decide) ?_
            refine z_forget (ls' := [some (.ref 0), some _, some _, none, none, none]) ⟨rfl, rfl, rfl, trivial⟩ ?_
            exact ih (k + 1) _ bs (by omega) (by omega) (bsI_no hI (fun q => hg (hcg.mpr q)))
        · -- 107 f
          refine z_goto (tgt := 210) hX dX6_cheapest_110 (by decide) ?_
          first | refine z_iincN (b := 1) (ls' := [_, _, _, _, _, _]) hX dX6_cheapest_210 rfl rfl rfl ?_ | refine z_iinc (ls' := [_, _, _, _, _, _]) hX dX6_cheapest_210 rfl rfl ?_
          refine z_goto (tgt := 23) hX dX6_cheapest_213 (by decide) ?_
          refine z_forget (ls' := [some (.ref 0), some _, some _, none, none, none]) ⟨rfl, rfl, rfl, trivial⟩ ?_
          exact ih (k + 1) _ bs (by omega) (by omega) (bsI_dear hI c_97 c_107)
set_option maxHeartbeats 4000000 in
set_option maxRecDepth 100000 in
theorem c_X6_cheapest (a : Nat → Nat → Int32) (b : Nat → Nat → Int64) (c : Nat → Int32) (hok : okM (a 15)) (hpr : ∀ q, q < 3 → zB (a 17 q) 0 1000) (x : Int32) : ∀ l, ZC l yX6_cheapest cX6_cheapest 6 (some .int) 1 [.ref 0, .int x] (WM a b c) (fun r w' => (¬ zJ x 4 ∧ r = some (.int (-1)) ∧ w' = WM a b c) ∨ ∃ wh t bs, wh < 4 ∧ x = nI wh ∧ bsI (a 17) (fun i => gdP (b 16) (tC i) (a 14) (a 15) (c 1) (c 2) 4) 1331 bs ∧ r = some (.int (bs wh)) ∧ w' = WM (va_up (va_up a 18 t) 19 bs) b c) := by
  intro l
  refine zc_intro (oc := 6) (by decide +kernel) rfl (Nat.le_of_ble_eq_true rfl) ?_
  intro X hX hR
  refine z_norm (ls' := [_, _, _, _, _, _]) rfl rfl rfl ?_
  refine z_iload_n hX dX6_cheapest_0 rfl ?_
  first | with_reducible refine z_i2lN hX dX6_cheapest_1 (by omega) ?_ | refine z_i2l hX dX6_cheapest_1 ?_
  refine z_lconst (v := 0) hX dX6_cheapest_2 rfl ?_
  refine z_ldc2 hX dX6_cheapest_3 k_6_112 ?_
  refine z_callS0 hX dX6_cheapest_6 ms_6_71 (c_X6_in _ _ _ _) (by decide) rfl rfl (Nat.le_of_ble_eq_true rfl) (fun r w1 hp _ => ?_)
  obtain ⟨rfl, hp⟩ := hp
  rcases zinJ (n := 4) rfl (by decide) hp with ⟨⟨wh, hwh, rfl⟩, rfl⟩ | ⟨hn_wh, rfl⟩
  · -- 6 T
    refine z_if_ne (tgt := 14) hX dX6_cheapest_9 (by decide) (fun _ => ?_) (fun c => absurd c (by decide))
    refine z_aload_n hX dX6_cheapest_14 rfl ?_
    refine z_get hX dX6_cheapest_15 f_6_66 rfl rfl ?_
    refine z_iconst (v := nI 3) hX dX6_cheapest_18 rfl ?_
    refine z_iconst (v := -1) hX dX6_cheapest_19 rfl ?_
    refine z_iast (w' := [_, _, _, _, _, _, _, _, _, _, _, _, _, _, _, _, _, _, _, _]) hX dX6_cheapest_20 rfl (by omega) (by decide) rfl ?_
    refine z_iconst (v := nI 0) hX dX6_cheapest_21 rfl ?_
    refine z_istore_n (ls' := [_, _, _, _, _, _]) hX dX6_cheapest_22 (Nat.le_of_ble_eq_true rfl) rfl ?_
    exact lp_ch_23 hX hR a b c hok hpr wh hwh (fun t bs hI => Or.inr ⟨wh, t, bs, hwh, rfl, hI, rfl, rfl⟩) 1332 0 (a 18) (upd (a 19) 3 (-1)) (by omega) (by omega) (Or.inl ⟨rfl, fun i hi => by omega⟩)
  · -- 6 F
    refine z_if_ne (tgt := 14) hX dX6_cheapest_9 (by decide) (fun c => absurd c (by decide)) (fun _ => ?_)
    refine z_iconst (v := -1) hX dX6_cheapest_12 rfl ?_
    refine z_iret hX hR dX6_cheapest_13 ?_
    exact Or.inl ⟨hn_wh, rfl, rfl⟩
