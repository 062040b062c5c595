/-! ===== a world of places: references are places, addresses are a map; one judgement ZG a method ===== -/
abbrev ZE : Type := (Nat × Nat × ((Nat → Int32) ⊕ (Nat → Int64))) ⊕ (Nat × List Value)
abbrev ZW : Type := List ZE
def zv (ad : Nat → Nat) (v : Value) : Value := match v with
  | .ref k => .ref (ad k)
  | v => v
def zr (ad : Nat → Nat) (v : Value) : Option Nat := match v with
  | .ref k => some (ad k)
  | _ => none
def zce (cy : Nat → Nat) (ad : Nat → Nat) (e : ZE) : va_E := match e with
  | .inl (t, n, .inl f) => .inl (cy t, n, .inl f)
  | .inl (t, n, .inr f) => .inl (cy t, n, .inr (.inl f))
  | .inr (ci, fs) => if ci < 100 then .inr (ci, fs.map (zv ad)) else .inl (cy (ci - 97), fs.length, .inr (.inr (.inr (.inr (fun j => (fs[j]?).bind (zr ad))))))
def zcw (cy : Nat → Nat) (ad : Nat → Nat) (w : ZW) : va_W := w.mapIdx (fun k e => (ad k, zce cy ad e))
theorem zcw_at (cy ad : Nat → Nat) (w : ZW) (k : Nat) : (zcw cy ad w)[k]? = (w[k]?).map (fun e => (ad k, zce cy ad e)) := by
  unfold zcw
  rw [List.getElem?_mapIdx]
theorem zcw_get {cy ad : Nat → Nat} {w : ZW} {k : Nat} {e : ZE} (h : w[k]? = some e) : (zcw cy ad w)[k]? = some (ad k, zce cy ad e) := by
  rw [zcw_at, h]; rfl
theorem zcw_len (cy ad : Nat → Nat) (w : ZW) : (zcw cy ad w).length = w.length := by
  unfold zcw
  rw [List.length_mapIdx]
theorem zcw_set (cy ad : Nat → Nat) (w : ZW) (k : Nat) (e : ZE) : (zcw cy ad w).set k (ad k, zce cy ad e) = zcw cy ad (w.set k e) := by
  apply List.ext_getElem?
  intro i
  rw [zcw_at, List.getElem?_set, List.getElem?_set, zcw_len, zcw_at]
  by_cases h : k = i
  · subst h
    by_cases hl : k < w.length
    · simp [hl]
    · simp [hl]
  · simp [h]
theorem zv_cat (ad : Nat → Nat) (v : Value) : (zv ad v).category = v.category := by cases v <;> rfl
theorem zv_zv (ad g : Nat → Nat) (v : Value) : zv ad (zv g v) = zv (fun k => ad (g k)) v := by cases v <;> rfl
theorem zr_zv (ad g : Nat → Nat) (v : Value) : zr ad (zv g v) = zr (fun k => ad (g k)) v := by cases v <;> rfl
/-! locals by their places -/
def zlv (ad : Nat → Nat) (ls : List (Option Value)) : List (Nat × Value) := ls.zipIdx.filterMap (fun q => q.1.map (fun v => (q.2, zv ad v)))
theorem zlv_mem {ad : Nat → Nat} {ls : List (Option Value)} {q : Nat × Value} : q ∈ zlv ad ls ↔ ∃ v, ls[q.1]? = some (some v) ∧ q.2 = zv ad v := by
  unfold zlv
  rw [List.mem_filterMap]
  constructor
  · rintro ⟨⟨o, i⟩, h1, h2⟩
    have h3 := List.mem_zipIdx_iff_getElem?.mp h1
    cases o with
    | none => cases h2
    | some v =>
      cases h2
      exact ⟨v, h3, rfl⟩
  · rintro ⟨v, h1, h2⟩
    refine ⟨(some v, q.1), List.mem_zipIdx_iff_getElem?.mpr h1, ?_⟩
    show some (q.1, zv ad v) = some q
    rw [← h2]
def ZL (ad : Nat → Nat) (nL : Nat) (ls : List (Option Value)) (lsA : Array Slot) : Prop := ls.length = nL ∧ lv_has lsA nL (zlv ad ls)
theorem ZL.at {ad : Nat → Nat} {nL : Nat} {ls : List (Option Value)} {lsA : Array Slot} (h : ZL ad nL ls lsA) {i : Nat} {v : Value} (hi : ls[i]? = some (some v)) : lsA[i]? = some (.val (zv ad v)) := h.2.2.2 (i, zv ad v) (zlv_mem.mpr ⟨v, hi, rfl⟩)
theorem ZL.lt {ad : Nat → Nat} {nL : Nat} {ls : List (Option Value)} {lsA : Array Slot} (h : ZL ad nL ls lsA) {i : Nat} {x : Option Value} (hi : ls[i]? = some x) : i < nL := by
  rw [← h.1]
  exact (List.getElem?_eq_some_iff.mp hi).1
/-- a long in the slot before is broken by a store -/
def zpr (ls : List (Option Value)) (i : Nat) : List (Option Value) := match i with
  | 0 => ls
  | j + 1 => match ls[j]? with
    | some (some v) => if v.category = 2 then ls.set j none else ls
    | _ => ls
theorem zpr_len (ls : List (Option Value)) (i : Nat) : (zpr ls i).length = ls.length := by
  unfold zpr
  split
  · rfl
  · split
    · split
      · simp
      · rfl
    · rfl
theorem zpr_at {ls : List (Option Value)} {i j : Nat} {v : Value} (h : (zpr ls i)[j]? = some (some v)) : ls[j]? = some (some v) ∧ ¬ (j + 1 = i ∧ v.category = 2) := by
  unfold zpr at h
  split at h
  · exact ⟨h, fun q => by omega⟩
  · rename_i k
    split at h
    · rename_i u hu
      split at h
      · rename_i hc
        by_cases hkj : k = j
        · subst hkj
          have hl := (List.getElem?_eq_some_iff.mp hu).1
          rw [List.getElem?_set_self hl] at h
          cases h
        · rw [List.getElem?_set_ne hkj] at h
          exact ⟨h, fun q => hkj (by omega)⟩
      · rename_i hc
        refine ⟨h, fun q => ?_⟩
        have : k = j := by omega
        subst this
        rw [hu] at h
        cases h
        exact hc q.2
    · rename_i hn
      refine ⟨h, fun q => ?_⟩
      have : k = j := by omega
      subst this
      exact hn v h
def zst1 (ls : List (Option Value)) (i : Nat) (v : Value) : List (Option Value) := (zpr ls i).set i (some v)
def zst2 (ls : List (Option Value)) (i : Nat) (v : Value) : List (Option Value) := ((zpr ls i).set i (some v)).set (i + 1) none
theorem ZL.st1 {ad : Nat → Nat} {nL : Nat} {ls : List (Option Value)} {ls' : Array Slot} {i : Nat} {v x : Value} (hx : x = zv ad v) (h0 : ls.length = nL) (hi : i < nL) (h : lv_has ls' nL ((i, x) :: (zlv ad ls).filter (fun q => !(q.1 == i) && !(q.1 + 1 == i && q.2.category == 2)))) : ZL ad nL (zst1 ls i v) ls' := by
  subst hx
  refine ⟨by unfold zst1; rw [List.length_set, zpr_len]; exact h0, h.1, h.2.1, fun q hq => h.2.2 q ?_⟩
  obtain ⟨u, h1, h2⟩ := zlv_mem.mp hq
  obtain ⟨j, y⟩ := q
  dsimp only at h1 h2
  subst h2
  unfold zst1 at h1
  by_cases hj : i = j
  · subst hj
    rw [List.getElem?_set_self (by rw [zpr_len]; omega)] at h1
    cases h1
    exact List.mem_cons_self
  · rw [List.getElem?_set_ne hj] at h1
    obtain ⟨h3, h4⟩ := zpr_at h1
    refine List.mem_cons_of_mem _ (List.mem_filter.mpr ⟨zlv_mem.mpr ⟨u, h3, rfl⟩, ?_⟩)
    rw [zv_cat]
    have h5 : ¬ j = i := fun e => hj e.symm
    simp [h5]
    omega
theorem ZL.st2 {ad : Nat → Nat} {nL : Nat} {ls : List (Option Value)} {ls' : Array Slot} {i : Nat} {v x : Value} (hx : x = zv ad v) (h0 : ls.length = nL) (hi : i + 1 < nL) (h : lv_has ls' nL ((i, x) :: (zlv ad ls).filter (fun q => !(q.1 == i) && (!(q.1 == i + 1) && !(q.1 + 1 == i && q.2.category == 2))))) : ZL ad nL (zst2 ls i v) ls' := by
  subst hx
  refine ⟨by unfold zst2; rw [List.length_set, List.length_set, zpr_len]; exact h0, h.1, h.2.1, fun q hq => h.2.2 q ?_⟩
  obtain ⟨u, h1, h2⟩ := zlv_mem.mp hq
  obtain ⟨j, y⟩ := q
  dsimp only at h1 h2
  subst h2
  unfold zst2 at h1
  by_cases hk : i + 1 = j
  · subst hk
    rw [List.getElem?_set_self (by rw [List.length_set, zpr_len]; omega)] at h1
    cases h1
  · rw [List.getElem?_set_ne hk] at h1
    by_cases hj : i = j
    · subst hj
      rw [List.getElem?_set_self (by rw [zpr_len]; omega)] at h1
      cases h1
      exact List.mem_cons_self
    · rw [List.getElem?_set_ne hj] at h1
      obtain ⟨h3, h4⟩ := zpr_at h1
      refine List.mem_cons_of_mem _ (List.mem_filter.mpr ⟨zlv_mem.mpr ⟨u, h3, rfl⟩, ?_⟩)
      rw [zv_cat]
      have h5 : ¬ j = i := fun e => hj e.symm
      have h8 : ¬ j = i + 1 := fun e => hk e.symm
      simp [h5, h8]
      omega
/-- fewer known locals -/
def zle : List (Option Value) → List (Option Value) → Prop
  | [], [] => True
  | none :: a, _ :: b => zle a b
  | some v :: a, x :: b => x = some v ∧ zle a b
  | _, _ => False
theorem zle_len : ∀ {a b : List (Option Value)}, zle a b → a.length = b.length
  | [], [], _ => rfl
  | none :: a, _ :: b, h => by rw [List.length_cons, List.length_cons, zle_len (a := a) (b := b) h]
  | some v :: a, x :: b, h => by rw [List.length_cons, List.length_cons, zle_len (a := a) (b := b) h.2]
theorem zle_at : ∀ {a b : List (Option Value)}, zle a b → ∀ {i : Nat} {v : Value}, a[i]? = some (some v) → b[i]? = some (some v)
  | [], [], _, i, v, h => by simp at h
  | none :: a, x :: b, h, i, v, h1 => by
    cases i with
    | zero => simp at h1
    | succ i => exact zle_at (a := a) (b := b) h (i := i) h1
  | some u :: a, x :: b, h, i, v, h1 => by
    cases i with
    | zero =>
      rw [h.1]
      exact h1
    | succ i => exact zle_at (a := a) (b := b) h.2 (i := i) h1
theorem ZL.le {ad : Nat → Nat} {nL : Nat} {ls ls' : List (Option Value)} {lsA : Array Slot} (hle : zle ls' ls) (h : ZL ad nL ls lsA) : ZL ad nL ls' lsA := by
  refine ⟨(zle_len hle).trans h.1, h.2.1, h.2.2.1, fun q hq => ?_⟩
  obtain ⟨v, h1, h2⟩ := zlv_mem.mp hq
  exact h.2.2.2 q (zlv_mem.mpr ⟨v, zle_at hle h1, h2⟩)
/-! the locals at a method's entry -/
def zen : List Value → List (Option Value)
  | [] => []
  | v :: r => if v.category = 2 then some v :: none :: zen r else some v :: zen r
def zent (nL : Nat) (av : List Value) : List (Option Value) := zen av ++ List.replicate (nL - (zen av).length) none
theorem zen_len (ad : Nat → Nat) : ∀ av : List Value, (zen av).length = (lg_sl (av.map (zv ad))).length
  | [] => rfl
  | v :: r => by
    have ih := zen_len ad r
    have e : (lg_sl ((v :: r).map (zv ad))).length = (if v.category = 2 then 2 else 1) + (lg_sl (r.map (zv ad))).length := by
      unfold lg_sl
      rw [List.map_cons, List.flatMap_cons, List.length_append, zv_cat]
      split <;> rfl
    rw [e, ← ih]
    simp only [zen]
    split
    · simp only [List.length_cons]
      omega
    · simp only [List.length_cons]
      omega
theorem zen_args (ad : Nat → Nat) : ∀ (av : List Value) (n i : Nat) (v : Value), (zen av)[i]? = some (some v) → (n + i, zv ad v) ∈ lv_args n (av.map (zv ad))
  | [], n, i, v, h => by simp [zen] at h
  | u :: r, n, i, v, h => by
    rw [List.map_cons]
    unfold lv_args
    rw [zv_cat]
    unfold zen at h
    split at h
    · rename_i hc
      rw [if_pos hc]
      match i, h with
      | 0, h => cases h; exact List.mem_cons_self
      | 1, h => cases h
      | i + 2, h =>
        refine List.mem_cons_of_mem _ ?_
        have := zen_args ad r (n + 2) i v h
        rw [show n + (i + 2) = n + 2 + i by omega]
        exact this
    · rename_i hc
      rw [if_neg hc]
      match i, h with
      | 0, h => cases h; exact List.mem_cons_self
      | i + 1, h =>
        refine List.mem_cons_of_mem _ ?_
        have := zen_args ad r (n + 1) i v h
        rw [show n + (i + 1) = n + 1 + i by omega]
        exact this
theorem zent_ok (ad : Nat → Nat) (av : List Value) (nL : Nat) (h : (zen av).length ≤ nL) : ZL ad nL (zent nL av) ((lg_sl (av.map (zv ad)) ++ List.replicate (nL - (lg_sl (av.map (zv ad))).length) Slot.unset).toArray) := by
  have hl := lv_entry (av.map (zv ad)) (n := nL) (by rw [← zen_len]; exact h)
  refine ⟨by unfold zent; rw [List.length_append, List.length_replicate]; omega, hl.1, hl.2.1, fun q hq => hl.2.2 q ?_⟩
  obtain ⟨v, h1, h2⟩ := zlv_mem.mp hq
  obtain ⟨j, y⟩ := q
  dsimp only at h1 h2
  subst h2
  unfold zent at h1
  by_cases hj : j < (zen av).length
  · rw [List.getElem?_append_left hj] at h1
    have := zen_args ad av 0 j v h1
    rw [Nat.zero_add] at this
    exact this
  · rw [List.getElem?_append_right (by omega), List.getElem?_replicate] at h1
    split at h1 <;> cases h1
