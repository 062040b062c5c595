/-! ===== fields, arrays, statics ===== -/
/-- entry idx of class oc's pool is field k of kind ci; what a read and a write need of the tables -/
def ZF (oc idx ci k : Nat) : Prop := ∃ (C : String) (T : u_T) (N : Nat) (ty : Nat → FieldType), vwCl[ci]? = some (C, T, N) ∧ k < N ∧ ci < 100 ∧ Cond.fieldLink (zcn oc) idx C (T k).2.1 (T k).2.2.1 ∈ zwd ∧ (T k).1 = C ∧ (∀ w ∈ u_ws C T N, w ∈ zwd) ∧ (∀ k, k < N → parseFieldDescriptor (T k).2.2.1 = some (ty k)) ∧ (∀ a, a < N → ∀ b, b < N → a ≠ b → (T a).2.1 ≠ (T b).2.1)
/-- the same of a field that may be written, of type ty -/
def ZP (oc idx ci k : Nat) (ty0 : FieldType) : Prop := ∃ (C : String) (T : u_T) (N : Nat) (ty : Nat → FieldType), vwCl[ci]? = some (C, T, N) ∧ k < N ∧ ci < 100 ∧ Cond.fieldLink (zcn oc) idx C (T k).2.1 (T k).2.2.1 ∈ zwd ∧ (T k).1 = C ∧ (∀ w ∈ u_ws C T N, w ∈ zwd) ∧ (∀ k, k < N → parseFieldDescriptor (T k).2.2.1 = some (ty k)) ∧ (∀ a, a < N → ∀ b, b < N → a ≠ b → (T a).2.1 ≠ (T b).2.1) ∧ (T k).2.2.2 = false ∧ ty k = ty0
theorem zce_obj {cy ad : Nat → Nat} {ci : Nat} {fs : List Value} (h : ci < 100) : zce cy ad (.inr (ci, fs)) = .inr (ci, fs.map (zv ad)) := by
  show (if ci < 100 then _ else _) = _
  rw [if_pos h]
theorem zce_row {cy ad : Nat → Nat} {ci : Nat} {fs : List Value} (h : ¬ ci < 100) : zce cy ad (.inr (ci, fs)) = .inl (cy (ci - 97), fs.length, .inr (.inr (.inr (.inr (fun j => (fs[j]?).bind (zr ad)))))) := by
  show (if ci < 100 then _ else _) = _
  rw [if_neg h]
section ZH
variable {X : ZX} {oc d pc : Nat} {B : ByteArray} {ls : List (Option Value)} {st : List Value} {w : ZW}
theorem z_get {idx ci k q : Nat} {fs : List Value} {v : Value} (hX : ZOK X oc B d) (hd : decode B pc = .ok (.getfield idx, 3)) (hf : ZF oc idx ci k) (hw : w[q]? = some (.inr (ci, fs))) (hv : fs[k]? = some v) (kk : ZG X (pc + 3) ls (v :: st) w) : ZG X pc ls (.ref q :: st) w := by
  obtain ⟨p, l, e, R, s, m, args, below, meth, c, D, cy, ad, A, n, cells, slots, Q⟩ := X
  intro H locs lsA h1 h2 h3 h4
  obtain ⟨hx, hb, hown, hts, hK, -⟩ := hX
  obtain ⟨C, T, N, ty, f1, f2, f3, f4, f5, f6, f7, f8⟩ := hf
  have he : (zcw cy ad w)[q]? = some (ad q, .inr (ci, fs.map (zv ad))) := by rw [zcw_get hw, zce_obj f3]
  exact va_get (D := D) (C := C) (T := T) (N := N) hx hb hts f6 hown hK h2 q he f1 k f2 (hts _ f4) (fun x hx => by rw [← f5]; rw [f5]; rw [f5] at hx; exact hx) (v := zv ad v) (by rw [List.getElem?_map, hv]; rfl) hd (kk H locs lsA h1 h2 h3 h4)
theorem z_put {idx ci k q : Nat} {fs : List Value} {v : Value} {ty0 : FieldType} {fs' : List Value} {w' : ZW} (hX : ZOK X oc B d) (hd : decode B pc = .ok (.putfield idx, 3)) (hf : ZP oc idx ci k ty0) (hw : w[q]? = some (.inr (ci, fs))) (hn : ∀ ad, narrow ty0 (zv ad v) = zv ad v) (hfit : ∀ ad, fits ty0 (zv ad v) = true) (hl : k < fs.length) (hfs : fs.set k v = fs') (hw' : w.set q (.inr (ci, fs')) = w') (kk : ZG X (pc + 3) ls st w') : ZG X pc ls (v :: .ref q :: st) w := by
  subst hfs
  subst hw'
  obtain ⟨p, l, e, R, s, m, args, below, meth, c, D, cy, ad, A, n, cells, slots, Q⟩ := X
  intro H locs lsA h1 h2 h3 h4
  obtain ⟨hx, hb, hown, hts, hK, hI, hA, -⟩ := hX
  obtain ⟨C, T, N, ty, f1, f2, f3, f4, f5, f6, f7, f8, f9, f10⟩ := hf
  have he : (zcw cy ad w)[q]? = some (ad q, .inr (ci, fs.map (zv ad))) := by rw [zcw_get hw, zce_obj f3]
  refine va_put (D := D) (C := C) (T := T) (N := N) (ty := ty0) (v := zv ad v) hx hb hts f6 ty f7 f8 hown hK h2 (hI.D hA h1) h3 q he f1 k f2 (hts _ f4) (fun x hx => by rw [f5] at hx; exact hx) f9 (by rw [f7 k f2, f10]) (hn ad) (hfit ad) (by rw [List.length_map]; exact hl) hd (fun H1 locs1 g1 g2 g3 => ?_)
  refine kk H1 locs1 lsA (by rw [List.length_set]; exact h1) ?_ g3 h4
  rw [← zcw_set, zce_obj f3, List.map_set]
  exact g1
theorem z_puti {idx ci k q : Nat} {fs : List Value} {x : Int32} {fs' : List Value} {w' : ZW} (hX : ZOK X oc B d) (hd : decode B pc = .ok (.putfield idx, 3)) (hf : ZP oc idx ci k .int) (hw : w[q]? = some (.inr (ci, fs))) (hl : k < fs.length) (hfs : fs.set k (.int x) = fs') (hw' : w.set q (.inr (ci, fs')) = w') (kk : ZG X (pc + 3) ls st w') : ZG X pc ls (.int x :: .ref q :: st) w := z_put hX hd hf hw (fun _ => rfl) (fun _ => rfl) hl hfs hw' kk
theorem z_putl {idx ci k q : Nat} {fs : List Value} {x : Int64} {fs' : List Value} {w' : ZW} (hX : ZOK X oc B d) (hd : decode B pc = .ok (.putfield idx, 3)) (hf : ZP oc idx ci k .long) (hw : w[q]? = some (.inr (ci, fs))) (hl : k < fs.length) (hfs : fs.set k (.long x) = fs') (hw' : w.set q (.inr (ci, fs')) = w') (kk : ZG X (pc + 3) ls st w') : ZG X pc ls (.long x :: .ref q :: st) w := z_put hX hd hf hw (fun _ => rfl) (fun _ => rfl) hl hfs hw' kk
theorem z_putz {idx ci k q : Nat} {fs : List Value} {x : Int32} {fs' : List Value} {w' : ZW} (hX : ZOK X oc B d) (hd : decode B pc = .ok (.putfield idx, 3)) (hf : ZP oc idx ci k .boolean) (hw : w[q]? = some (.inr (ci, fs))) (hx : x = 0 ∨ x = 1) (hl : k < fs.length) (hfs : fs.set k (.int x) = fs') (hw' : w.set q (.inr (ci, fs')) = w') (kk : ZG X (pc + 3) ls st w') : ZG X pc ls (.int x :: .ref q :: st) w := z_put hX hd hf hw (fun _ => by rcases hx with h | h <;> subst h <;> rfl) (fun _ => by rcases hx with h | h <;> subst h <;> rfl) hl hfs hw' kk
/-! arrays -/
theorem z_iald {q n' j : Nat} {f : Nat → Int32} (hX : ZOK X oc B d) (hd : decode B pc = .ok (.iaload, 1)) (hw : w[q]? = some (.inl (0, n', .inl f))) (hj : j < n') (hn : n' < 2147483648) (kk : ZG X (pc + 1) ls (.int (f j) :: st) w) : ZG X pc ls (.int (nI j) :: .ref q :: st) w := by
  obtain ⟨p, l, e, R, s, m, args, below, meth, c, D, cy, ad, A, n, cells, slots, Q⟩ := X
  intro H locs lsA h1 h2 h3 h4
  obtain ⟨hx, hb, hown, hts, hK, -⟩ := hX
  refine va_iald hx hb hK h2 q 0 (zcw_get hw) rfl (vp_in_nI hj hn) hd ?_
  rw [nI_clamp (by omega)]
  exact kk H locs lsA h1 h2 h3 h4
theorem z_zald {q n' j : Nat} {f : Nat → Int32} (hX : ZOK X oc B d) (hd : decode B pc = .ok (.baload, 1)) (hw : w[q]? = some (.inl (2, n', .inl f))) (hj : j < n') (hn : n' < 2147483648) (kk : ZG X (pc + 1) ls (.int (f j) :: st) w) : ZG X pc ls (.int (nI j) :: .ref q :: st) w := by
  obtain ⟨p, l, e, R, s, m, args, below, meth, c, D, cy, ad, A, n, cells, slots, Q⟩ := X
  intro H locs lsA h1 h2 h3 h4
  obtain ⟨hx, hb, hown, hts, hK, -⟩ := hX
  refine va_zald hx hb hK h2 q 2 (zcw_get hw) rfl (vp_in_nI hj hn) hd ?_
  rw [nI_clamp (by omega)]
  exact kk H locs lsA h1 h2 h3 h4
theorem z_lald {q n' j : Nat} {f : Nat → Int64} (hX : ZOK X oc B d) (hd : decode B pc = .ok (.laload, 1)) (hw : w[q]? = some (.inl (1, n', .inr f))) (hj : j < n') (hn : n' < 2147483648) (kk : ZG X (pc + 1) ls (.long (f j) :: st) w) : ZG X pc ls (.int (nI j) :: .ref q :: st) w := by
  obtain ⟨p, l, e, R, s, m, args, below, meth, c, D, cy, ad, A, n, cells, slots, Q⟩ := X
  intro H locs lsA h1 h2 h3 h4
  obtain ⟨hx, hb, hown, hts, hK, -⟩ := hX
  refine va_lald hx hb hK h2 q 1 (zcw_get hw) rfl (vp_in_nI hj hn) hd ?_
  rw [nI_clamp (by omega)]
  exact kk H locs lsA h1 h2 h3 h4
theorem z_iast {q n' j : Nat} {f : Nat → Int32} {x : Int32} {w' : ZW} (hX : ZOK X oc B d) (hd : decode B pc = .ok (.iastore, 1)) (hw : w[q]? = some (.inl (0, n', .inl f))) (hj : j < n') (hn : n' < 2147483648) (hw' : w.set q (.inl (0, n', .inl (upd f j x))) = w') (kk : ZG X (pc + 1) ls st w') : ZG X pc ls (.int x :: .int (nI j) :: .ref q :: st) w := by
  subst hw'
  obtain ⟨p, l, e, R, s, m, args, below, meth, c, D, cy, ad, A, n, cells, slots, Q⟩ := X
  intro H locs lsA h1 h2 h3 h4
  obtain ⟨hx, hb, hown, hts, hK, hI, hA, -⟩ := hX
  refine va_iast hx hb hK h2 (hI.D hA h1) h3 q 0 (zcw_get hw) rfl (vp_in_nI hj hn) hd (fun H1 locs1 g1 g2 g3 => ?_)
  rw [nI_clamp (by omega)] at g1
  refine kk H1 locs1 lsA (by rw [List.length_set]; exact h1) ?_ g3 h4
  rw [← zcw_set]
  exact g1
theorem z_last {q n' j : Nat} {f : Nat → Int64} {x : Int64} {w' : ZW} (hX : ZOK X oc B d) (hd : decode B pc = .ok (.lastore, 1)) (hw : w[q]? = some (.inl (1, n', .inr f))) (hj : j < n') (hn : n' < 2147483648) (hw' : w.set q (.inl (1, n', .inr (vp_updL f j x))) = w') (kk : ZG X (pc + 1) ls st w') : ZG X pc ls (.long x :: .int (nI j) :: .ref q :: st) w := by
  subst hw'
  obtain ⟨p, l, e, R, s, m, args, below, meth, c, D, cy, ad, A, n, cells, slots, Q⟩ := X
  intro H locs lsA h1 h2 h3 h4
  obtain ⟨hx, hb, hown, hts, hK, hI, hA, -⟩ := hX
  refine va_last hx hb hK h2 (hI.D hA h1) h3 q 1 (zcw_get hw) rfl (vp_in_nI hj hn) hd (fun H1 locs1 g1 g2 g3 => ?_)
  rw [nI_clamp (by omega)] at g1
  refine kk H1 locs1 lsA (by rw [List.length_set]; exact h1) ?_ g3 h4
  rw [← zcw_set]
  exact g1
theorem z_zast {q n' j : Nat} {f : Nat → Int32} {x : Int32} {w' : ZW} (hX : ZOK X oc B d) (hd : decode B pc = .ok (.bastore, 1)) (hw : w[q]? = some (.inl (2, n', .inl f))) (hj : j < n') (hn : n' < 2147483648) (hx01 : x = 0 ∨ x = 1) (hw' : w.set q (.inl (2, n', .inl (upd f j x))) = w') (kk : ZG X (pc + 1) ls st w') : ZG X pc ls (.int x :: .int (nI j) :: .ref q :: st) w := by
  subst hw'
  obtain ⟨p, l, e, R, s, m, args, below, meth, c, D, cy, ad, A, n, cells, slots, Q⟩ := X
  intro H locs lsA h1 h2 h3 h4
  obtain ⟨hx, hb, hown, hts, hK, hI, hA, -⟩ := hX
  refine va_zast hx hb hK h2 (hI.D hA h1) h3 q 2 (zcw_get hw) rfl (vp_in_nI hj hn) hd (fun H1 locs1 g1 g2 g3 => ?_)
  rw [nI_clamp (by omega)] at g1
  have hnar : vp_nar .boolean x = x := by rcases hx01 with h | h <;> subst h <;> decide +kernel
  rw [hnar] at g1
  refine kk H1 locs1 lsA (by rw [List.length_set]; exact h1) ?_ g3 h4
  rw [← zcw_set]
  exact g1
theorem z_ilen {q n' t : Nat} {f : (Nat → Int32) ⊕ (Nat → Int64)} (hX : ZOK X oc B d) (hd : decode B pc = .ok (.arraylength, 1)) (hw : w[q]? = some (.inl (t, n', f))) (ht : t < 3) (kk : ZG X (pc + 1) ls (.int (nI n') :: st) w) : ZG X pc ls (.ref q :: st) w := by
  obtain ⟨p, l, e, R, s, m, args, below, meth, c, D, cy, ad, A, n, cells, slots, Q⟩ := X
  intro H locs lsA h1 h2 h3 h4
  obtain ⟨hx, hb, hown, hts, hK, -⟩ := hX
  have hty : ∃ ty, (ztys cy)[t]? = some (cy t, ty) := by
    rcases (show t = 0 ∨ t = 1 ∨ t = 2 by omega) with h | h | h <;> subst h <;> exact ⟨_, rfl⟩
  obtain ⟨ty, hty⟩ := hty
  cases f with
  | inl f => exact va_alen hx hb hK h2 q t (zcw_get hw) hty (v := nI n') rfl hd (kk H locs lsA h1 h2 h3 h4)
  | inr f => exact va_alen hx hb hK h2 q t (zcw_get hw) hty (v := nI n') rfl hd (kk H locs lsA h1 h2 h3 h4)
theorem z_aald {q ci j r : Nat} {fs : List Value} (hX : ZOK X oc B d) (hd : decode B pc = .ok (.aaload, 1)) (hw : w[q]? = some (.inr (ci, fs))) (hci : ci = 100 ∨ ci = 101 ∨ ci = 102) (hj : fs[j]? = some (.ref r)) (hn : fs.length < 2147483648) (kk : ZG X (pc + 1) ls (.ref r :: st) w) : ZG X pc ls (.int (nI j) :: .ref q :: st) w := by
  obtain ⟨p, l, e, R, s, m, args, below, meth, c, D, cy, ad, A, n, cells, slots, Q⟩ := X
  intro H locs lsA h1 h2 h3 h4
  obtain ⟨hx, hb, hown, hts, hK, -⟩ := hX
  have hlt : j < fs.length := (List.getElem?_eq_some_iff.mp hj).1
  have key : ∃ C, (ztys cy)[ci - 97]? = some (cy (ci - 97), .object C) := by
    rcases hci with h | h | h <;> subst h <;> exact ⟨_, rfl⟩
  obtain ⟨C, hC⟩ := key
  refine va_aldq hx hb hK h2 q (ci - 97) (C := C) ((zcw_get hw).trans (congrArg some (congrArg (Prod.mk (ad q)) (zce_row (by omega))))) hC (vp_in_nI hlt hn) hd ?_
  rw [nI_clamp (by omega)]
  have hv : va_rf ((fs[j]?).bind (zr ad)) = .ref (ad r) := by rw [hj]; rfl
  rw [hv]
  exact kk H locs lsA h1 h2 h3 h4
end ZH
