/-! ===== the judgement ===== -/
def zcn : Nat → String
  | 0 => RX0
  | 1 => RX1
  | 2 => RX2
  | 3 => RX3
  | 4 => RX4
  | 5 => RX5
  | 6 => RX6
  | 7 => RJ9
  | 9 => "WindBoxesLaw"
  | _ => RJ7
def zwd : List Cond := lw_tbl.filter goodWord
def ztys (cy : Nat → Nat) : List (ClassId × FieldType) := [(cy 0, .int), (cy 1, .long), (cy 2, .boolean), (cy 3, .object "WindBoxes$Sheet"), (cy 4, .object "WindBoxes$Stuff"), (cy 5, .object "WindBoxes$Log"), (cy 6, .array .long)]
def zFROM : List Nat := [9, 0, 1, 2, 9, 3, 4, 5, 9, 6, 7, 8, 9, 9, 9, 0, 1, 2, 3, 4, 5, 6, 7, 8]
def zTO : List Nat := [0, 1, 2, 9, 3, 4, 5, 9, 6, 7, 8, 9, 0, 1, 2, 3, 4, 5, 6, 7, 8, 9, 9, 9]
def zFALL : List Nat := [67, 22, 7, 22, 14, 6, 7, 6, 3, 22, 74, 22, 14, 28, 14, 6, 10, 6, 7, 22, 67, 6, 14, 22, 3, 6, 7, 22, 14, 6, 74, 28, 10, 22, 14, 6, 14, 28, 14, 28, 84, 28, 14, 28, 14, 6, 14, 22, 10, 28, 74, 6, 14, 22, 7, 6, 3, 22, 14, 6, 67, 22, 7, 6, 10, 6, 14, 28, 14, 22, 74, 22, 3, 6, 7, 6, 14, 22, 7, 22, 67]
/-- a static row of ints: what the field holds, and what that row holds -/
def zst (nm : String) (xs : List Nat) (k : Nat) (ad : Nat → Nat) (A : Nat → Prop) (U : State) (H : Heap) : Prop := va_Z "WindBoxes" nm "[I" (.ref (ad k)) A U H ∧ va_T .int (ad k) xs.length (fun j => .int (nI (xs.getD j 0))) A U H
/-- the words on a nest mate's private fields -/
def znw (U : State) : Prop := va_Nw (.fieldLinkNest RX0 34 "WindBoxes" "FALL" "[I" "WindBoxes") U ∧ va_Nw (.fieldLinkNest RX0 43 "WindBoxes" "FROM" "[I" "WindBoxes") U ∧ va_Nw (.fieldLinkNest RX0 46 "WindBoxes" "TO" "[I" "WindBoxes") U ∧ va_Nw (.fieldLinkNest RX4 44 "WindBoxes" "FROM" "[I" "WindBoxes") U ∧ va_Nw (.fieldLinkNest RX4 47 "WindBoxes" "TO" "[I" "WindBoxes") U
def ZS (ad : Nat → Nat) (A : Nat → Prop) (U : State) (H : Heap) : Prop := zst "FROM" zFROM 1000 ad A U H ∧ zst "TO" zTO 1001 ad A U H ∧ zst "FALL" zFALL 1002 ad A U H ∧ znw U
def ZInj (ad : Nat → Nat) (n : Nat) : Prop := ∀ i j, i < n → j < n → ad i = ad j → i = j
theorem ZInj.D {ad : Nat → Nat} {A : Nat → Prop} {n : Nat} {cy : Nat → Nat} {w : ZW} (h : ZInj ad n) (hA : ∀ i, i < n → A (ad i)) (hw : w.length = n) : va_D A (zcw cy ad w) := by
  have key : ∀ (k : Nat) (q : Nat × va_E), (zcw cy ad w)[k]? = some q → k < n ∧ q.1 = ad k := by
    intro k q hq
    have hl := (List.getElem?_eq_some_iff.mp hq).1
    rw [zcw_len] at hl
    rw [zcw_at] at hq
    obtain ⟨e, -, h2⟩ := Option.map_eq_some_iff.mp hq
    exact ⟨by omega, by rw [← h2]⟩
  refine ⟨fun i j p q hi hj hpq => ?_, fun k q hq => ?_⟩
  · obtain ⟨h1, h2⟩ := key i p hi
    obtain ⟨h3, h4⟩ := key j q hj
    exact h i j h1 h3 (by rw [← h2, ← h4]; exact hpq)
  · obtain ⟨h1, h2⟩ := key k q hq
    rw [h2]
    exact hA k h1
abbrev ZX : Type := Program × Launch × Env × Room × State × MethodId × Array Value × List Frame × Method × Code × va_G × (Nat → Nat) × (Nat → Nat) × (Nat → Prop) × Nat × Nat × Nat × (State → Prop)
def ZG (X : ZX) (pc : Nat) (ls : List (Option Value)) (st : List Value) (w : ZW) : Prop := match X with
  | (p, l, e, R, s, m, args, below, meth, c, D, cy, ad, A, n, cells, slots, Q) => ∀ (H : Heap) (locs : List Loc) (lsA : Array Slot), w.length = n → va_P D vwCl (zcw cy ad w) H → va_S A s.heap H locs → ZL ad c.maxLocals ls lsA → W p l e R s m args below meth c H locs cells slots Q (F0 m pc lsA (st.map (zv ad)))
def ZOK (X : ZX) (oc : Nat) (B : ByteArray) (d : Nat) : Prop := match X with
  | (p, l, e, R, s, m, args, below, meth, c, D, cy, ad, A, n, cells, slots, Q) => p.tables.exec = Jvm.exec ∧ c.code = B ∧ s.vm.findClass (zcn oc) = some m.cls ∧ (∀ w ∈ zwd, w.before args s = true) ∧ va_K D vwCl (ztys cy) s ∧ ZInj ad n ∧ (∀ i, i < n → A (ad i)) ∧ ZS ad A s s.heap ∧ (d ≤ R.frames ∧ 40 * d ≤ R.locals) ∧ (cells ≤ R.cells ∧ slots ≤ R.slots) ∧ (∀ q, s.heap.size ≤ q → A q)
theorem ZOK.ex {p : Program} {l : Launch} {e : Env} {R : Room} {s : State} {m : MethodId} {args : Array Value} {below : List Frame} {meth : Method} {c : Code} {D : va_G} {cy ad : Nat → Nat} {A : Nat → Prop} {n cells slots : Nat} {Q : State → Prop} {oc : Nat} {B : ByteArray} {d : Nat} (h : ZOK (p, l, e, R, s, m, args, below, meth, c, D, cy, ad, A, n, cells, slots, Q) oc B d) : p.tables.exec = Jvm.exec := h.1
theorem ZOK.by {p : Program} {l : Launch} {e : Env} {R : Room} {s : State} {m : MethodId} {args : Array Value} {below : List Frame} {meth : Method} {c : Code} {D : va_G} {cy ad : Nat → Nat} {A : Nat → Prop} {n cells slots : Nat} {Q : State → Prop} {oc : Nat} {B : ByteArray} {d : Nat} (h : ZOK (p, l, e, R, s, m, args, below, meth, c, D, cy, ad, A, n, cells, slots, Q) oc B d) : c.code = B := h.2.1
theorem zlg_c (x y : Int64) : (y < x ∧ lg_cmp x y = 1) ∨ (x = y ∧ lg_cmp x y = 0) ∨ (x < y ∧ lg_cmp x y = -1) := by
  unfold lg_cmp
  by_cases h : x > y
  · exact Or.inl ⟨h, if_pos h⟩
  · by_cases h2 : x = y
    · exact Or.inr (Or.inl ⟨h2, by rw [if_neg h, if_pos h2]⟩)
    · refine Or.inr (Or.inr ⟨?_, by rw [if_neg h, if_neg h2]⟩)
      have h3 : ¬ y < x := h
      rw [Int64.lt_iff_toInt_lt] at h3 ⊢
      have h4 : ¬ x.toInt = y.toInt := fun q => h2 (Int64.toInt_inj.mp q)
      omega
theorem zlg_eq (x y : Int64) (h : (lg_cmp x y) = 0) : x = y := by
  rcases zlg_c x y with ⟨h1, h2⟩ | ⟨h1, h2⟩ | ⟨h1, h2⟩ <;> rw [h2] at h <;> first | exact h1 | exact absurd h (by decide) | exact absurd rfl h | (rw [h1]; exact Int64.le_refl _) | exact Int64.le_of_lt h1 | exact Int64.ne_of_lt h1 | exact (fun q => Int64.ne_of_lt h1 q.symm) | exact fun q => absurd h1 (by rw [q]; exact Int64.lt_irrefl) | (subst h1; exact Int64.le_refl _)
theorem zlg_neq (x y : Int64) (h : ¬ (lg_cmp x y) = 0) : ¬ x = y := by
  rcases zlg_c x y with ⟨h1, h2⟩ | ⟨h1, h2⟩ | ⟨h1, h2⟩ <;> rw [h2] at h <;> first | exact h1 | exact absurd h (by decide) | exact absurd rfl h | (rw [h1]; exact Int64.le_refl _) | exact Int64.le_of_lt h1 | exact Int64.ne_of_lt h1 | exact (fun q => Int64.ne_of_lt h1 q.symm) | exact fun q => absurd h1 (by rw [q]; exact Int64.lt_irrefl) | (subst h1; exact Int64.le_refl _)
theorem zlg_ne (x y : Int64) (h : ¬ (lg_cmp x y) = 0) : ¬ x = y := by
  rcases zlg_c x y with ⟨h1, h2⟩ | ⟨h1, h2⟩ | ⟨h1, h2⟩ <;> rw [h2] at h <;> first | exact h1 | exact absurd h (by decide) | exact absurd rfl h | (rw [h1]; exact Int64.le_refl _) | exact Int64.le_of_lt h1 | exact Int64.ne_of_lt h1 | exact (fun q => Int64.ne_of_lt h1 q.symm) | exact fun q => absurd h1 (by rw [q]; exact Int64.lt_irrefl) | (subst h1; exact Int64.le_refl _)
theorem zlg_nne (x y : Int64) (h : (lg_cmp x y) = 0) : x = y := by
  rcases zlg_c x y with ⟨h1, h2⟩ | ⟨h1, h2⟩ | ⟨h1, h2⟩ <;> rw [h2] at h <;> first | exact h1 | exact absurd h (by decide) | exact absurd rfl h | (rw [h1]; exact Int64.le_refl _) | exact Int64.le_of_lt h1 | exact Int64.ne_of_lt h1 | exact (fun q => Int64.ne_of_lt h1 q.symm) | exact fun q => absurd h1 (by rw [q]; exact Int64.lt_irrefl) | (subst h1; exact Int64.le_refl _)
theorem zlg_lt (x y : Int64) (h : (lg_cmp x y) < 0) : x < y := by
  rcases zlg_c x y with ⟨h1, h2⟩ | ⟨h1, h2⟩ | ⟨h1, h2⟩ <;> rw [h2] at h <;> first | exact h1 | exact absurd h (by decide) | exact absurd rfl h | (rw [h1]; exact Int64.le_refl _) | exact Int64.le_of_lt h1 | exact Int64.ne_of_lt h1 | exact (fun q => Int64.ne_of_lt h1 q.symm) | exact fun q => absurd h1 (by rw [q]; exact Int64.lt_irrefl) | (subst h1; exact Int64.le_refl _)
theorem zlg_nlt (x y : Int64) (h : ¬ (lg_cmp x y) < 0) : y ≤ x := by
  rcases zlg_c x y with ⟨h1, h2⟩ | ⟨h1, h2⟩ | ⟨h1, h2⟩ <;> rw [h2] at h <;> first | exact h1 | exact absurd h (by decide) | exact absurd rfl h | (rw [h1]; exact Int64.le_refl _) | exact Int64.le_of_lt h1 | exact Int64.ne_of_lt h1 | exact (fun q => Int64.ne_of_lt h1 q.symm) | exact fun q => absurd h1 (by rw [q]; exact Int64.lt_irrefl) | (subst h1; exact Int64.le_refl _)
theorem zlg_ge (x y : Int64) (h : 0 ≤ (lg_cmp x y)) : y ≤ x := by
  rcases zlg_c x y with ⟨h1, h2⟩ | ⟨h1, h2⟩ | ⟨h1, h2⟩ <;> rw [h2] at h <;> first | exact h1 | exact absurd h (by decide) | exact absurd rfl h | (rw [h1]; exact Int64.le_refl _) | exact Int64.le_of_lt h1 | exact Int64.ne_of_lt h1 | exact (fun q => Int64.ne_of_lt h1 q.symm) | exact fun q => absurd h1 (by rw [q]; exact Int64.lt_irrefl) | (subst h1; exact Int64.le_refl _)
theorem zlg_nge (x y : Int64) (h : ¬ 0 ≤ (lg_cmp x y)) : x < y := by
  rcases zlg_c x y with ⟨h1, h2⟩ | ⟨h1, h2⟩ | ⟨h1, h2⟩ <;> rw [h2] at h <;> first | exact h1 | exact absurd h (by decide) | exact absurd rfl h | (rw [h1]; exact Int64.le_refl _) | exact Int64.le_of_lt h1 | exact Int64.ne_of_lt h1 | exact (fun q => Int64.ne_of_lt h1 q.symm) | exact fun q => absurd h1 (by rw [q]; exact Int64.lt_irrefl) | (subst h1; exact Int64.le_refl _)
theorem zlg_gt (x y : Int64) (h : 0 < (lg_cmp x y)) : y < x := by
  rcases zlg_c x y with ⟨h1, h2⟩ | ⟨h1, h2⟩ | ⟨h1, h2⟩ <;> rw [h2] at h <;> first | exact h1 | exact absurd h (by decide) | exact absurd rfl h | (rw [h1]; exact Int64.le_refl _) | exact Int64.le_of_lt h1 | exact Int64.ne_of_lt h1 | exact (fun q => Int64.ne_of_lt h1 q.symm) | exact fun q => absurd h1 (by rw [q]; exact Int64.lt_irrefl) | (subst h1; exact Int64.le_refl _)
theorem zlg_ngt (x y : Int64) (h : ¬ 0 < (lg_cmp x y)) : x ≤ y := by
  rcases zlg_c x y with ⟨h1, h2⟩ | ⟨h1, h2⟩ | ⟨h1, h2⟩ <;> rw [h2] at h <;> first | exact h1 | exact absurd h (by decide) | exact absurd rfl h | (rw [h1]; exact Int64.le_refl _) | exact Int64.le_of_lt h1 | exact Int64.ne_of_lt h1 | exact (fun q => Int64.ne_of_lt h1 q.symm) | exact fun q => absurd h1 (by rw [q]; exact Int64.lt_irrefl) | (subst h1; exact Int64.le_refl _)
theorem zlg_le (x y : Int64) (h : (lg_cmp x y) ≤ 0) : x ≤ y := by
  rcases zlg_c x y with ⟨h1, h2⟩ | ⟨h1, h2⟩ | ⟨h1, h2⟩ <;> rw [h2] at h <;> first | exact h1 | exact absurd h (by decide) | exact absurd rfl h | (rw [h1]; exact Int64.le_refl _) | exact Int64.le_of_lt h1 | exact Int64.ne_of_lt h1 | exact (fun q => Int64.ne_of_lt h1 q.symm) | exact fun q => absurd h1 (by rw [q]; exact Int64.lt_irrefl) | (subst h1; exact Int64.le_refl _)
theorem zlg_nle (x y : Int64) (h : ¬ (lg_cmp x y) ≤ 0) : y < x := by
  rcases zlg_c x y with ⟨h1, h2⟩ | ⟨h1, h2⟩ | ⟨h1, h2⟩ <;> rw [h2] at h <;> first | exact h1 | exact absurd h (by decide) | exact absurd rfl h | (rw [h1]; exact Int64.le_refl _) | exact Int64.le_of_lt h1 | exact Int64.ne_of_lt h1 | exact (fun q => Int64.ne_of_lt h1 q.symm) | exact fun q => absurd h1 (by rw [q]; exact Int64.lt_irrefl) | (subst h1; exact Int64.le_refl _)
section ZR
variable {X : ZX} {oc d pc : Nat} {B : ByteArray} {ls : List (Option Value)} {st : List Value} {w : ZW}
theorem z_forget {ls' : List (Option Value)} (hle : zle ls' ls) (k : ZG X pc ls' st w) : ZG X pc ls st w := by
  obtain ⟨p, l, e, R, s, m, args, below, meth, c, D, cy, ad, A, n, cells, slots, Q⟩ := X
  intro H locs lsA h1 h2 h3 h4
  exact k H locs lsA h1 h2 h3 (h4.le hle)
theorem z_iadd {x y : Int32} (hX : ZOK X oc B d) (hd : decode B pc = .ok (.iadd, 1)) (k : ZG X (pc + 1) ls (.int (x + y) :: st) w) : ZG X pc ls (.int y :: .int x :: st) w := by
  obtain ⟨p, l, e, R, s, m, args, below, meth, c, D, cy, ad, A, n, cells, slots, Q⟩ := X
  intro H locs lsA h1 h2 h3 h4
  exact lv_iadd hX.ex hX.by hd (k H locs lsA h1 h2 h3 h4)
theorem z_isub {x y : Int32} (hX : ZOK X oc B d) (hd : decode B pc = .ok (.isub, 1)) (k : ZG X (pc + 1) ls (.int (x - y) :: st) w) : ZG X pc ls (.int y :: .int x :: st) w := by
  obtain ⟨p, l, e, R, s, m, args, below, meth, c, D, cy, ad, A, n, cells, slots, Q⟩ := X
  intro H locs lsA h1 h2 h3 h4
  exact lv_isub hX.ex hX.by hd (k H locs lsA h1 h2 h3 h4)
theorem z_imul {x y : Int32} (hX : ZOK X oc B d) (hd : decode B pc = .ok (.imul, 1)) (k : ZG X (pc + 1) ls (.int (x * y) :: st) w) : ZG X pc ls (.int y :: .int x :: st) w := by
  obtain ⟨p, l, e, R, s, m, args, below, meth, c, D, cy, ad, A, n, cells, slots, Q⟩ := X
  intro H locs lsA h1 h2 h3 h4
  exact lv_imul hX.ex hX.by hd (k H locs lsA h1 h2 h3 h4)
theorem z_iand {x y : Int32} (hX : ZOK X oc B d) (hd : decode B pc = .ok (.iand, 1)) (k : ZG X (pc + 1) ls (.int (x &&& y) :: st) w) : ZG X pc ls (.int y :: .int x :: st) w := by
  obtain ⟨p, l, e, R, s, m, args, below, meth, c, D, cy, ad, A, n, cells, slots, Q⟩ := X
  intro H locs lsA h1 h2 h3 h4
  exact lv_iand hX.ex hX.by hd (k H locs lsA h1 h2 h3 h4)
theorem z_ior {x y : Int32} (hX : ZOK X oc B d) (hd : decode B pc = .ok (.ior, 1)) (k : ZG X (pc + 1) ls (.int (x ||| y) :: st) w) : ZG X pc ls (.int y :: .int x :: st) w := by
  obtain ⟨p, l, e, R, s, m, args, below, meth, c, D, cy, ad, A, n, cells, slots, Q⟩ := X
  intro H locs lsA h1 h2 h3 h4
  exact lv_ior hX.ex hX.by hd (k H locs lsA h1 h2 h3 h4)
theorem z_ixor {x y : Int32} (hX : ZOK X oc B d) (hd : decode B pc = .ok (.ixor, 1)) (k : ZG X (pc + 1) ls (.int (x ^^^ y) :: st) w) : ZG X pc ls (.int y :: .int x :: st) w := by
  obtain ⟨p, l, e, R, s, m, args, below, meth, c, D, cy, ad, A, n, cells, slots, Q⟩ := X
  intro H locs lsA h1 h2 h3 h4
  exact lv_ixor hX.ex hX.by hd (k H locs lsA h1 h2 h3 h4)
theorem z_ladd {x y : Int64} (hX : ZOK X oc B d) (hd : decode B pc = .ok (.ladd, 1)) (k : ZG X (pc + 1) ls (.long (x + y) :: st) w) : ZG X pc ls (.long y :: .long x :: st) w := by
  obtain ⟨p, l, e, R, s, m, args, below, meth, c, D, cy, ad, A, n, cells, slots, Q⟩ := X
  intro H locs lsA h1 h2 h3 h4
  exact lv_ladd hX.ex hX.by hd (k H locs lsA h1 h2 h3 h4)
theorem z_lsub {x y : Int64} (hX : ZOK X oc B d) (hd : decode B pc = .ok (.lsub, 1)) (k : ZG X (pc + 1) ls (.long (x - y) :: st) w) : ZG X pc ls (.long y :: .long x :: st) w := by
  obtain ⟨p, l, e, R, s, m, args, below, meth, c, D, cy, ad, A, n, cells, slots, Q⟩ := X
  intro H locs lsA h1 h2 h3 h4
  exact lv_lsub hX.ex hX.by hd (k H locs lsA h1 h2 h3 h4)
theorem z_lmul {x y : Int64} (hX : ZOK X oc B d) (hd : decode B pc = .ok (.lmul, 1)) (k : ZG X (pc + 1) ls (.long (x * y) :: st) w) : ZG X pc ls (.long y :: .long x :: st) w := by
  obtain ⟨p, l, e, R, s, m, args, below, meth, c, D, cy, ad, A, n, cells, slots, Q⟩ := X
  intro H locs lsA h1 h2 h3 h4
  exact lv_lmul hX.ex hX.by hd (k H locs lsA h1 h2 h3 h4)
theorem z_idiv {x y : Int32} (hX : ZOK X oc B d) (hd : decode B pc = .ok (.idiv, 1)) (hne : ¬ y = 0) (k : ZG X (pc + 1) ls (.int (x / y) :: st) w) : ZG X pc ls (.int y :: .int x :: st) w := by
  obtain ⟨p, l, e, R, s, m, args, below, meth, c, D, cy, ad, A, n, cells, slots, Q⟩ := X
  intro H locs lsA h1 h2 h3 h4
  exact lv_idiv hX.ex hX.by hd hne (k H locs lsA h1 h2 h3 h4)
theorem z_irem {x y : Int32} (hX : ZOK X oc B d) (hd : decode B pc = .ok (.irem, 1)) (hne : ¬ y = 0) (k : ZG X (pc + 1) ls (.int (x - x / y * y) :: st) w) : ZG X pc ls (.int y :: .int x :: st) w := by
  obtain ⟨p, l, e, R, s, m, args, below, meth, c, D, cy, ad, A, n, cells, slots, Q⟩ := X
  intro H locs lsA h1 h2 h3 h4
  exact lv_irem hX.ex hX.by hd hne (k H locs lsA h1 h2 h3 h4)
theorem z_ldiv {x y : Int64} (hX : ZOK X oc B d) (hd : decode B pc = .ok (.ldiv, 1)) (hne : ¬ y = 0) (k : ZG X (pc + 1) ls (.long (x / y) :: st) w) : ZG X pc ls (.long y :: .long x :: st) w := by
  obtain ⟨p, l, e, R, s, m, args, below, meth, c, D, cy, ad, A, n, cells, slots, Q⟩ := X
  intro H locs lsA h1 h2 h3 h4
  exact lv_ldiv hX.ex hX.by hd hne (k H locs lsA h1 h2 h3 h4)
theorem z_lrem {x y : Int64} (hX : ZOK X oc B d) (hd : decode B pc = .ok (.lrem, 1)) (hne : ¬ y = 0) (k : ZG X (pc + 1) ls (.long (x - x / y * y) :: st) w) : ZG X pc ls (.long y :: .long x :: st) w := by
  obtain ⟨p, l, e, R, s, m, args, below, meth, c, D, cy, ad, A, n, cells, slots, Q⟩ := X
  intro H locs lsA h1 h2 h3 h4
  exact lv_lrem hX.ex hX.by hd hne (k H locs lsA h1 h2 h3 h4)
theorem z_ineg {x : Int32} (hX : ZOK X oc B d) (hd : decode B pc = .ok (.ineg, 1)) (k : ZG X (pc + 1) ls (.int (-x) :: st) w) : ZG X pc ls (.int x :: st) w := by
  obtain ⟨p, l, e, R, s, m, args, below, meth, c, D, cy, ad, A, n, cells, slots, Q⟩ := X
  intro H locs lsA h1 h2 h3 h4
  exact lv_ineg hX.ex hX.by hd (k H locs lsA h1 h2 h3 h4)
theorem z_lneg {x : Int64} (hX : ZOK X oc B d) (hd : decode B pc = .ok (.lneg, 1)) (k : ZG X (pc + 1) ls (.long (-x) :: st) w) : ZG X pc ls (.long x :: st) w := by
  obtain ⟨p, l, e, R, s, m, args, below, meth, c, D, cy, ad, A, n, cells, slots, Q⟩ := X
  intro H locs lsA h1 h2 h3 h4
  exact lv_lneg hX.ex hX.by hd (k H locs lsA h1 h2 h3 h4)
theorem z_ishl {x y : Int32} (hX : ZOK X oc B d) (hd : decode B pc = .ok (.ishl, 1)) (k : ZG X (pc + 1) ls (.int (x <<< (y &&& 31)) :: st) w) : ZG X pc ls (.int y :: .int x :: st) w := by
  obtain ⟨p, l, e, R, s, m, args, below, meth, c, D, cy, ad, A, n, cells, slots, Q⟩ := X
  intro H locs lsA h1 h2 h3 h4
  exact lv_ishl hX.ex hX.by hd (k H locs lsA h1 h2 h3 h4)
theorem z_ishr {x y : Int32} (hX : ZOK X oc B d) (hd : decode B pc = .ok (.ishr, 1)) (k : ZG X (pc + 1) ls (.int (x >>> (y &&& 31)) :: st) w) : ZG X pc ls (.int y :: .int x :: st) w := by
  obtain ⟨p, l, e, R, s, m, args, below, meth, c, D, cy, ad, A, n, cells, slots, Q⟩ := X
  intro H locs lsA h1 h2 h3 h4
  exact lv_ishr hX.ex hX.by hd (k H locs lsA h1 h2 h3 h4)
theorem z_i2l {x : Int32} (hX : ZOK X oc B d) (hd : decode B pc = .ok (.i2l, 1)) (k : ZG X (pc + 1) ls (.long x.toInt64 :: st) w) : ZG X pc ls (.int x :: st) w := by
  obtain ⟨p, l, e, R, s, m, args, below, meth, c, D, cy, ad, A, n, cells, slots, Q⟩ := X
  intro H locs lsA h1 h2 h3 h4
  exact lv_i2l hX.ex hX.by hd rfl (k H locs lsA h1 h2 h3 h4)
theorem z_l2i {x : Int64} (hX : ZOK X oc B d) (hd : decode B pc = .ok (.l2i, 1)) (k : ZG X (pc + 1) ls (.int x.toInt32 :: st) w) : ZG X pc ls (.long x :: st) w := by
  obtain ⟨p, l, e, R, s, m, args, below, meth, c, D, cy, ad, A, n, cells, slots, Q⟩ := X
  intro H locs lsA h1 h2 h3 h4
  exact lv_l2i hX.ex hX.by hd rfl (k H locs lsA h1 h2 h3 h4)
theorem z_i2s {x : Int32} (hX : ZOK X oc B d) (hd : decode B pc = .ok (.i2s, 1)) (k : ZG X (pc + 1) ls (.int x.toInt16.toInt32 :: st) w) : ZG X pc ls (.int x :: st) w := by
  obtain ⟨p, l, e, R, s, m, args, below, meth, c, D, cy, ad, A, n, cells, slots, Q⟩ := X
  intro H locs lsA h1 h2 h3 h4
  exact lv_i2s hX.ex hX.by hd rfl (k H locs lsA h1 h2 h3 h4)
theorem z_lcmp {x y : Int64} (hX : ZOK X oc B d) (hd : decode B pc = .ok (.lcmp, 1)) (k : ZG X (pc + 1) ls (.int (lg_cmp x y) :: st) w) : ZG X pc ls (.long y :: .long x :: st) w := by
  obtain ⟨p, l, e, R, s, m, args, below, meth, c, D, cy, ad, A, n, cells, slots, Q⟩ := X
  intro H locs lsA h1 h2 h3 h4
  exact W.lcmp hX.ex hX.by hd (k H locs lsA h1 h2 h3 h4)
theorem z_iaddN {a b : Nat} (hX : ZOK X oc B d) (hd : decode B pc = .ok (.iadd, 1)) (k : ZG X (pc + 1) ls (.int (nI (a + b)) :: st) w) : ZG X pc ls (.int (nI b) :: .int (nI a) :: st) w := z_iadd hX hd (by rw [nI_add]; exact k)
theorem z_imulN {a b : Nat} (hX : ZOK X oc B d) (hd : decode B pc = .ok (.imul, 1)) (k : ZG X (pc + 1) ls (.int (nI (a * b)) :: st) w) : ZG X pc ls (.int (nI b) :: .int (nI a) :: st) w := z_imul hX hd (by rw [pk_mul]; exact k)
theorem z_isubN {a b : Nat} (hX : ZOK X oc B d) (hd : decode B pc = .ok (.isub, 1)) (hle : b ≤ a) (k : ZG X (pc + 1) ls (.int (nI (a - b)) :: st) w) : ZG X pc ls (.int (nI b) :: .int (nI a) :: st) w := z_isub hX hd (by rw [pk_sub hle]; exact k)
theorem nI_n0 {b : Nat} (h0 : 0 < b) (hb : b < 2147483648) : ¬ nI b = 0 := nI_ne0 h0 hb
theorem z_idivN {a b : Nat} (hX : ZOK X oc B d) (hd : decode B pc = .ok (.idiv, 1)) (ha : a < 2147483648) (h0 : 0 < b) (hb : b < 2147483648) (k : ZG X (pc + 1) ls (.int (nI (a / b)) :: st) w) : ZG X pc ls (.int (nI b) :: .int (nI a) :: st) w := z_idiv hX hd (nI_n0 h0 hb) (by rw [pk_div ha h0 hb]; exact k)
theorem z_iremN {a b : Nat} (hX : ZOK X oc B d) (hd : decode B pc = .ok (.irem, 1)) (ha : a < 2147483648) (h0 : 0 < b) (hb : b < 2147483648) (k : ZG X (pc + 1) ls (.int (nI (a % b)) :: st) w) : ZG X pc ls (.int (nI b) :: .int (nI a) :: st) w := z_irem hX hd (nI_n0 h0 hb) (by rw [pk_rem ha h0 hb]; exact k)
theorem z_i2lN {a : Nat} (hX : ZOK X oc B d) (hd : decode B pc = .ok (.i2l, 1)) (ha : a < 2147483648) (k : ZG X (pc + 1) ls (.long (lN a) :: st) w) : ZG X pc ls (.int (nI a) :: st) w := z_i2l hX hd (by rw [nI_l ha]; exact k)
theorem z_iconst {n : Int} {v : Int32} (hX : ZOK X oc B d) (hd : decode B pc = .ok (.iconst n, 1)) (hv : Int32.ofInt n = v) (k : ZG X (pc + 1) ls (.int v :: st) w) : ZG X pc ls st w := by
  obtain ⟨p, l, e, R, s, m, args, below, meth, c, D, cy, ad, A, n, cells, slots, Q⟩ := X
  intro H locs lsA h1 h2 h3 h4
  exact lv_iconst hX.ex hX.by hd hv (k H locs lsA h1 h2 h3 h4)
theorem z_bipush {n : Int} {v : Int32} (hX : ZOK X oc B d) (hd : decode B pc = .ok (.bipush n, 2)) (hv : (Int8.ofInt n).toInt32 = v) (k : ZG X (pc + 2) ls (.int v :: st) w) : ZG X pc ls st w := by
  obtain ⟨p, l, e, R, s, m, args, below, meth, c, D, cy, ad, A, n, cells, slots, Q⟩ := X
  intro H locs lsA h1 h2 h3 h4
  exact lv_bipush hX.ex hX.by hd hv (k H locs lsA h1 h2 h3 h4)
theorem z_sipush {n : Int} {v : Int32} (hX : ZOK X oc B d) (hd : decode B pc = .ok (.sipush n, 3)) (hv : (Int16.ofInt n).toInt32 = v) (k : ZG X (pc + 3) ls (.int v :: st) w) : ZG X pc ls st w := by
  obtain ⟨p, l, e, R, s, m, args, below, meth, c, D, cy, ad, A, n, cells, slots, Q⟩ := X
  intro H locs lsA h1 h2 h3 h4
  exact lv_sipush hX.ex hX.by hd hv (k H locs lsA h1 h2 h3 h4)
theorem z_lconst {n : Fin 2} {v : Int64} (hX : ZOK X oc B d) (hd : decode B pc = .ok (.lconst n, 1)) (hv : Int64.ofNat (n : Nat) = v) (k : ZG X (pc + 1) ls (.long v :: st) w) : ZG X pc ls st w := by
  obtain ⟨p, l, e, R, s, m, args, below, meth, c, D, cy, ad, A, n, cells, slots, Q⟩ := X
  intro H locs lsA h1 h2 h3 h4
  exact lv_lconst hX.ex hX.by hd hv (k H locs lsA h1 h2 h3 h4)
theorem z_ldc {idx : Nat} {v : Int32} (hX : ZOK X oc B d) (hd : decode B pc = .ok (.ldc idx, 2)) (hc : Cond.constant (zcn oc) idx v ∈ zwd) (k : ZG X (pc + 2) ls (.int v :: st) w) : ZG X pc ls st w := by
  obtain ⟨p, l, e, R, s, m, args, below, meth, c, D, cy, ad, A, n, cells, slots, Q⟩ := X
  intro H locs lsA h1 h2 h3 h4
  obtain ⟨hx, hb, hown, hts, -⟩ := hX
  exact lv_ldc hx hb hown (hts _ hc) hd (k H locs lsA h1 h2 h3 h4)
theorem z_ldc2 {idx : Nat} {v : Int64} (hX : ZOK X oc B d) (hd : decode B pc = .ok (.ldc2_w idx, 3)) (hc : Cond.constantLong (zcn oc) idx v ∈ zwd) (k : ZG X (pc + 3) ls (.long v :: st) w) : ZG X pc ls st w := by
  obtain ⟨p, l, e, R, s, m, args, below, meth, c, D, cy, ad, A, n, cells, slots, Q⟩ := X
  intro H locs lsA h1 h2 h3 h4
  obtain ⟨hx, hb, hown, hts, -⟩ := hX
  exact lv_ldc2 hx hb hown (hts _ hc) hd (k H locs lsA h1 h2 h3 h4)
theorem z_iload_n {k : Fin 4} {x : Int32} (hX : ZOK X oc B d) (hd : decode B pc = .ok (.iload_n k, 1)) (hl : ls[(k : Nat)]? = some (some (.int x))) (kk : ZG X (pc + 1) ls (.int x :: st) w) : ZG X pc ls st w := by
  obtain ⟨p, l, e, R, s, m, args, below, meth, c, D, cy, ad, A, n, cells, slots, Q⟩ := X
  intro H locs lsA h1 h2 h3 h4
  exact lv_iload_n hX.ex hX.by hd rfl (h4.at hl) (kk H locs lsA h1 h2 h3 h4)
theorem z_iload {i : Nat} {x : Int32} (hX : ZOK X oc B d) (hd : decode B pc = .ok (.iload i, 2)) (hl : ls[i]? = some (some (.int x))) (kk : ZG X (pc + 2) ls (.int x :: st) w) : ZG X pc ls st w := by
  obtain ⟨p, l, e, R, s, m, args, below, meth, c, D, cy, ad, A, n, cells, slots, Q⟩ := X
  intro H locs lsA h1 h2 h3 h4
  exact lv_iload hX.ex hX.by hd (h4.at hl) (kk H locs lsA h1 h2 h3 h4)
theorem z_istore_n {k : Fin 4} {x : Int32} {ls' : List (Option Value)} (hX : ZOK X oc B d) (hd : decode B pc = .ok (.istore_n k, 1)) (hn : (k : Nat) < ls.length) (hl : zst1 ls (k : Nat) (.int x) = ls') (kk : ZG X (pc + 1) ls' st w) : ZG X pc ls (.int x :: st) w := by
  subst hl
  obtain ⟨p, l, e, R, s, m, args, below, meth, c, D, cy, ad, A, n, cells, slots, Q⟩ := X
  intro H locs lsA h1 h2 h3 h4
  have hn' := hn
  rw [h4.1] at hn'
  exact lv_istore_n hX.ex hX.by hd rfl h4.2 hn' rfl (fun ls' h' => kk H locs ls' h1 h2 h3 (ZL.st1 rfl h4.1 hn' h'))
theorem z_istore {i : Nat} {x : Int32} {ls' : List (Option Value)} (hX : ZOK X oc B d) (hd : decode B pc = .ok (.istore i, 2)) (hn : i < ls.length) (hl : zst1 ls i (.int x) = ls') (kk : ZG X (pc + 2) ls' st w) : ZG X pc ls (.int x :: st) w := by
  subst hl
  obtain ⟨p, l, e, R, s, m, args, below, meth, c, D, cy, ad, A, n, cells, slots, Q⟩ := X
  intro H locs lsA h1 h2 h3 h4
  have hn' := hn
  rw [h4.1] at hn'
  exact lv_istore hX.ex hX.by hd h4.2 hn' rfl (fun ls' h' => kk H locs ls' h1 h2 h3 (ZL.st1 rfl h4.1 hn' h'))
theorem z_lload_n {k : Fin 4} {x : Int64} (hX : ZOK X oc B d) (hd : decode B pc = .ok (.lload_n k, 1)) (hl : ls[(k : Nat)]? = some (some (.long x))) (kk : ZG X (pc + 1) ls (.long x :: st) w) : ZG X pc ls st w := by
  obtain ⟨p, l, e, R, s, m, args, below, meth, c, D, cy, ad, A, n, cells, slots, Q⟩ := X
  intro H locs lsA h1 h2 h3 h4
  exact lv_lload_n hX.ex hX.by hd rfl (h4.at hl) (kk H locs lsA h1 h2 h3 h4)
theorem z_lload {i : Nat} {x : Int64} (hX : ZOK X oc B d) (hd : decode B pc = .ok (.lload i, 2)) (hl : ls[i]? = some (some (.long x))) (kk : ZG X (pc + 2) ls (.long x :: st) w) : ZG X pc ls st w := by
  obtain ⟨p, l, e, R, s, m, args, below, meth, c, D, cy, ad, A, n, cells, slots, Q⟩ := X
  intro H locs lsA h1 h2 h3 h4
  exact lv_lload hX.ex hX.by hd (h4.at hl) (kk H locs lsA h1 h2 h3 h4)
theorem z_lstore_n {k : Fin 4} {x : Int64} {ls' : List (Option Value)} (hX : ZOK X oc B d) (hd : decode B pc = .ok (.lstore_n k, 1)) (hn : (k : Nat) + 1 < ls.length) (hl : zst2 ls (k : Nat) (.long x) = ls') (kk : ZG X (pc + 1) ls' st w) : ZG X pc ls (.long x :: st) w := by
  subst hl
  obtain ⟨p, l, e, R, s, m, args, below, meth, c, D, cy, ad, A, n, cells, slots, Q⟩ := X
  intro H locs lsA h1 h2 h3 h4
  have hn' := hn
  rw [h4.1] at hn'
  exact lv_lstore_n hX.ex hX.by hd rfl h4.2 hn' rfl (fun ls' h' => kk H locs ls' h1 h2 h3 (ZL.st2 rfl h4.1 hn' h'))
theorem z_lstore {i : Nat} {x : Int64} {ls' : List (Option Value)} (hX : ZOK X oc B d) (hd : decode B pc = .ok (.lstore i, 2)) (hn : i + 1 < ls.length) (hl : zst2 ls i (.long x) = ls') (kk : ZG X (pc + 2) ls' st w) : ZG X pc ls (.long x :: st) w := by
  subst hl
  obtain ⟨p, l, e, R, s, m, args, below, meth, c, D, cy, ad, A, n, cells, slots, Q⟩ := X
  intro H locs lsA h1 h2 h3 h4
  have hn' := hn
  rw [h4.1] at hn'
  exact lv_lstore hX.ex hX.by hd h4.2 hn' rfl (fun ls' h' => kk H locs ls' h1 h2 h3 (ZL.st2 rfl h4.1 hn' h'))
theorem z_aload_n {k : Fin 4} {x : Nat} (hX : ZOK X oc B d) (hd : decode B pc = .ok (.aload_n k, 1)) (hl : ls[(k : Nat)]? = some (some (.ref x))) (kk : ZG X (pc + 1) ls (.ref x :: st) w) : ZG X pc ls st w := by
  obtain ⟨p, l, e, R, s, m, args, below, meth, c, D, cy, ad, A, n, cells, slots, Q⟩ := X
  intro H locs lsA h1 h2 h3 h4
  exact lv_aload_n hX.ex hX.by hd rfl (h4.at hl) (kk H locs lsA h1 h2 h3 h4)
theorem z_aload {i : Nat} {x : Nat} (hX : ZOK X oc B d) (hd : decode B pc = .ok (.aload i, 2)) (hl : ls[i]? = some (some (.ref x))) (kk : ZG X (pc + 2) ls (.ref x :: st) w) : ZG X pc ls st w := by
  obtain ⟨p, l, e, R, s, m, args, below, meth, c, D, cy, ad, A, n, cells, slots, Q⟩ := X
  intro H locs lsA h1 h2 h3 h4
  exact lv_aload hX.ex hX.by hd (h4.at hl) (kk H locs lsA h1 h2 h3 h4)
theorem z_astore_n {k : Fin 4} {x : Nat} {ls' : List (Option Value)} (hX : ZOK X oc B d) (hd : decode B pc = .ok (.astore_n k, 1)) (hn : (k : Nat) < ls.length) (hl : zst1 ls (k : Nat) (.ref x) = ls') (kk : ZG X (pc + 1) ls' st w) : ZG X pc ls (.ref x :: st) w := by
  subst hl
  obtain ⟨p, l, e, R, s, m, args, below, meth, c, D, cy, ad, A, n, cells, slots, Q⟩ := X
  intro H locs lsA h1 h2 h3 h4
  have hn' := hn
  rw [h4.1] at hn'
  exact lv_astore_n hX.ex hX.by hd rfl h4.2 hn' rfl (fun ls' h' => kk H locs ls' h1 h2 h3 (ZL.st1 rfl h4.1 hn' h'))
theorem z_astore {i : Nat} {x : Nat} {ls' : List (Option Value)} (hX : ZOK X oc B d) (hd : decode B pc = .ok (.astore i, 2)) (hn : i < ls.length) (hl : zst1 ls i (.ref x) = ls') (kk : ZG X (pc + 2) ls' st w) : ZG X pc ls (.ref x :: st) w := by
  subst hl
  obtain ⟨p, l, e, R, s, m, args, below, meth, c, D, cy, ad, A, n, cells, slots, Q⟩ := X
  intro H locs lsA h1 h2 h3 h4
  have hn' := hn
  rw [h4.1] at hn'
  exact lv_astore hX.ex hX.by hd h4.2 hn' rfl (fun ls' h' => kk H locs ls' h1 h2 h3 (ZL.st1 rfl h4.1 hn' h'))
theorem z_iinc {i : Nat} {q : Int} {x : Int32} {ls' : List (Option Value)} (hX : ZOK X oc B d) (hd : decode B pc = .ok (.iinc i q, 3)) (hi : ls[i]? = some (some (.int x))) (hl : zst1 ls i (.int (x + Int32.ofInt q)) = ls') (kk : ZG X (pc + 3) ls' st w) : ZG X pc ls st w := by
  subst hl
  obtain ⟨p, l, e, R, s, m, args, below, meth, c, D, cy, ad, A, n, cells, slots, Q⟩ := X
  intro H locs lsA h1 h2 h3 h4
  have hn' := h4.lt hi
  obtain ⟨k, hk⟩ := List.getElem?_of_mem (zlv_mem (ad := ad) (ls := ls) (q := (i, .int x)).mpr ⟨.int x, hi, rfl⟩)
  exact lv_iinc hX.ex hX.by hd h4.2 hk rfl hn' rfl (fun ls' h' => kk H locs ls' h1 h2 h3 (ZL.st1 rfl h4.1 hn' h'))
theorem z_iincN {i b a : Nat} {q : Int} {ls' : List (Option Value)} (hX : ZOK X oc B d) (hd : decode B pc = .ok (.iinc i q, 3)) (hi : ls[i]? = some (some (.int (nI a)))) (hq : Int32.ofInt q = nI b) (hl : zst1 ls i (.int (nI (a + b))) = ls') (kk : ZG X (pc + 3) ls' st w) : ZG X pc ls st w := z_iinc hX hd hi (by rw [hq, nI_add]; exact hl) kk
theorem z_iincD {i a : Nat} {ls' : List (Option Value)} (hX : ZOK X oc B d) (hd : decode B pc = .ok (.iinc i (-1), 3)) (hi : ls[i]? = some (some (.int (nI (a + 1))))) (hl : zst1 ls i (.int (nI a)) = ls') (kk : ZG X (pc + 3) ls' st w) : ZG X pc ls st w := z_iinc hX hd hi (by rw [show Int32.ofInt (-1) = -1 from rfl, pk_m1]; exact hl) kk
theorem z_goto {off : Int} {tgt : Nat} (hX : ZOK X oc B d) (hd : decode B pc = .ok (.goto off, 3)) (ht : (pc : Int) + off = (tgt : Int)) (k : ZG X tgt ls st w) : ZG X pc ls st w := by
  obtain ⟨p, l, e, R, s, m, args, below, meth, c, D, cy, ad, A, n, cells, slots, Q⟩ := X
  intro H locs lsA h1 h2 h3 h4
  exact lv_goto hX.ex hX.by hd ht (k H locs lsA h1 h2 h3 h4)
theorem z_if_eq {x : Int32} {off : Int} {tgt : Nat} (hX : ZOK X oc B d) (hd : decode B pc = .ok (.ifCond .eq off, 3)) (ht : (pc : Int) + off = (tgt : Int)) (kt : x = 0 → ZG X tgt ls st w) (kf : ¬ x = 0 → ZG X (pc + 3) ls st w) : ZG X pc ls (.int x :: st) w := by
  obtain ⟨p, l, e, R, s, m, args, below, meth, c, D, cy, ad, A, n, cells, slots, Q⟩ := X
  intro H locs lsA h1 h2 h3 h4
  exact lv_if_eq hX.ex hX.by hd ht (fun q => kt q H locs lsA h1 h2 h3 h4) (fun q => kf q H locs lsA h1 h2 h3 h4)
theorem z_icmp_eq {x y : Int32} {off : Int} {tgt : Nat} (hX : ZOK X oc B d) (hd : decode B pc = .ok (.if_icmp .eq off, 3)) (ht : (pc : Int) + off = (tgt : Int)) (kt : x = y → ZG X tgt ls st w) (kf : ¬ x = y → ZG X (pc + 3) ls st w) : ZG X pc ls (.int y :: .int x :: st) w := by
  obtain ⟨p, l, e, R, s, m, args, below, meth, c, D, cy, ad, A, n, cells, slots, Q⟩ := X
  intro H locs lsA h1 h2 h3 h4
  exact lv_icmp_eq hX.ex hX.by hd ht (fun q => kt q H locs lsA h1 h2 h3 h4) (fun q => kf q H locs lsA h1 h2 h3 h4)
theorem z_if_ne {x : Int32} {off : Int} {tgt : Nat} (hX : ZOK X oc B d) (hd : decode B pc = .ok (.ifCond .ne off, 3)) (ht : (pc : Int) + off = (tgt : Int)) (kt : ¬ x = 0 → ZG X tgt ls st w) (kf : x = 0 → ZG X (pc + 3) ls st w) : ZG X pc ls (.int x :: st) w := by
  obtain ⟨p, l, e, R, s, m, args, below, meth, c, D, cy, ad, A, n, cells, slots, Q⟩ := X
  intro H locs lsA h1 h2 h3 h4
  exact lv_if_ne hX.ex hX.by hd ht (fun q => kt q H locs lsA h1 h2 h3 h4) (fun q => kf q H locs lsA h1 h2 h3 h4)
theorem z_icmp_ne {x y : Int32} {off : Int} {tgt : Nat} (hX : ZOK X oc B d) (hd : decode B pc = .ok (.if_icmp .ne off, 3)) (ht : (pc : Int) + off = (tgt : Int)) (kt : ¬ x = y → ZG X tgt ls st w) (kf : x = y → ZG X (pc + 3) ls st w) : ZG X pc ls (.int y :: .int x :: st) w := by
  obtain ⟨p, l, e, R, s, m, args, below, meth, c, D, cy, ad, A, n, cells, slots, Q⟩ := X
  intro H locs lsA h1 h2 h3 h4
  exact lv_icmp_ne hX.ex hX.by hd ht (fun q => kt q H locs lsA h1 h2 h3 h4) (fun q => kf q H locs lsA h1 h2 h3 h4)
theorem z_if_lt {x : Int32} {off : Int} {tgt : Nat} (hX : ZOK X oc B d) (hd : decode B pc = .ok (.ifCond .lt off, 3)) (ht : (pc : Int) + off = (tgt : Int)) (kt : x < 0 → ZG X tgt ls st w) (kf : ¬ x < 0 → ZG X (pc + 3) ls st w) : ZG X pc ls (.int x :: st) w := by
  obtain ⟨p, l, e, R, s, m, args, below, meth, c, D, cy, ad, A, n, cells, slots, Q⟩ := X
  intro H locs lsA h1 h2 h3 h4
  exact lv_if_lt hX.ex hX.by hd ht (fun q => kt q H locs lsA h1 h2 h3 h4) (fun q => kf q H locs lsA h1 h2 h3 h4)
theorem z_icmp_lt {x y : Int32} {off : Int} {tgt : Nat} (hX : ZOK X oc B d) (hd : decode B pc = .ok (.if_icmp .lt off, 3)) (ht : (pc : Int) + off = (tgt : Int)) (kt : x < y → ZG X tgt ls st w) (kf : ¬ x < y → ZG X (pc + 3) ls st w) : ZG X pc ls (.int y :: .int x :: st) w := by
  obtain ⟨p, l, e, R, s, m, args, below, meth, c, D, cy, ad, A, n, cells, slots, Q⟩ := X
  intro H locs lsA h1 h2 h3 h4
  exact lv_icmp_lt hX.ex hX.by hd ht (fun q => kt q H locs lsA h1 h2 h3 h4) (fun q => kf q H locs lsA h1 h2 h3 h4)
theorem z_if_ge {x : Int32} {off : Int} {tgt : Nat} (hX : ZOK X oc B d) (hd : decode B pc = .ok (.ifCond .ge off, 3)) (ht : (pc : Int) + off = (tgt : Int)) (kt : 0 ≤ x → ZG X tgt ls st w) (kf : ¬ 0 ≤ x → ZG X (pc + 3) ls st w) : ZG X pc ls (.int x :: st) w := by
  obtain ⟨p, l, e, R, s, m, args, below, meth, c, D, cy, ad, A, n, cells, slots, Q⟩ := X
  intro H locs lsA h1 h2 h3 h4
  exact lv_if_ge hX.ex hX.by hd ht (fun q => kt q H locs lsA h1 h2 h3 h4) (fun q => kf q H locs lsA h1 h2 h3 h4)
theorem z_icmp_ge {x y : Int32} {off : Int} {tgt : Nat} (hX : ZOK X oc B d) (hd : decode B pc = .ok (.if_icmp .ge off, 3)) (ht : (pc : Int) + off = (tgt : Int)) (kt : y ≤ x → ZG X tgt ls st w) (kf : ¬ y ≤ x → ZG X (pc + 3) ls st w) : ZG X pc ls (.int y :: .int x :: st) w := by
  obtain ⟨p, l, e, R, s, m, args, below, meth, c, D, cy, ad, A, n, cells, slots, Q⟩ := X
  intro H locs lsA h1 h2 h3 h4
  exact lv_icmp_ge hX.ex hX.by hd ht (fun q => kt q H locs lsA h1 h2 h3 h4) (fun q => kf q H locs lsA h1 h2 h3 h4)
theorem z_if_gt {x : Int32} {off : Int} {tgt : Nat} (hX : ZOK X oc B d) (hd : decode B pc = .ok (.ifCond .gt off, 3)) (ht : (pc : Int) + off = (tgt : Int)) (kt : 0 < x → ZG X tgt ls st w) (kf : ¬ 0 < x → ZG X (pc + 3) ls st w) : ZG X pc ls (.int x :: st) w := by
  obtain ⟨p, l, e, R, s, m, args, below, meth, c, D, cy, ad, A, n, cells, slots, Q⟩ := X
  intro H locs lsA h1 h2 h3 h4
  exact lv_if_gt hX.ex hX.by hd ht (fun q => kt q H locs lsA h1 h2 h3 h4) (fun q => kf q H locs lsA h1 h2 h3 h4)
theorem z_icmp_gt {x y : Int32} {off : Int} {tgt : Nat} (hX : ZOK X oc B d) (hd : decode B pc = .ok (.if_icmp .gt off, 3)) (ht : (pc : Int) + off = (tgt : Int)) (kt : y < x → ZG X tgt ls st w) (kf : ¬ y < x → ZG X (pc + 3) ls st w) : ZG X pc ls (.int y :: .int x :: st) w := by
  obtain ⟨p, l, e, R, s, m, args, below, meth, c, D, cy, ad, A, n, cells, slots, Q⟩ := X
  intro H locs lsA h1 h2 h3 h4
  exact lv_icmp_gt hX.ex hX.by hd ht (fun q => kt q H locs lsA h1 h2 h3 h4) (fun q => kf q H locs lsA h1 h2 h3 h4)
theorem z_if_le {x : Int32} {off : Int} {tgt : Nat} (hX : ZOK X oc B d) (hd : decode B pc = .ok (.ifCond .le off, 3)) (ht : (pc : Int) + off = (tgt : Int)) (kt : x ≤ 0 → ZG X tgt ls st w) (kf : ¬ x ≤ 0 → ZG X (pc + 3) ls st w) : ZG X pc ls (.int x :: st) w := by
  obtain ⟨p, l, e, R, s, m, args, below, meth, c, D, cy, ad, A, n, cells, slots, Q⟩ := X
  intro H locs lsA h1 h2 h3 h4
  exact lv_if_le hX.ex hX.by hd ht (fun q => kt q H locs lsA h1 h2 h3 h4) (fun q => kf q H locs lsA h1 h2 h3 h4)
theorem z_icmp_le {x y : Int32} {off : Int} {tgt : Nat} (hX : ZOK X oc B d) (hd : decode B pc = .ok (.if_icmp .le off, 3)) (ht : (pc : Int) + off = (tgt : Int)) (kt : x ≤ y → ZG X tgt ls st w) (kf : ¬ x ≤ y → ZG X (pc + 3) ls st w) : ZG X pc ls (.int y :: .int x :: st) w := by
  obtain ⟨p, l, e, R, s, m, args, below, meth, c, D, cy, ad, A, n, cells, slots, Q⟩ := X
  intro H locs lsA h1 h2 h3 h4
  exact lv_icmp_le hX.ex hX.by hd ht (fun q => kt q H locs lsA h1 h2 h3 h4) (fun q => kf q H locs lsA h1 h2 h3 h4)
theorem z_icmp_eqN {a b : Nat} {off : Int} {tgt : Nat} (hX : ZOK X oc B d) (hd : decode B pc = .ok (.if_icmp .eq off, 3)) (ht : (pc : Int) + off = (tgt : Int)) (ha : a < 2147483648) (hb : b < 2147483648) (kt : a = b → ZG X tgt ls st w) (kf : ¬ a = b → ZG X (pc + 3) ls st w) : ZG X pc ls (.int (nI b) :: .int (nI a) :: st) w := by
  have e1 := nI_eq ha hb
  have e2 := nI_ltI ha hb
  have e3 := nI_leI hb ha
  have e4 := nI_ltI hb ha
  have e5 := nI_leI ha hb
  refine z_icmp_eq hX hd ht (fun q => kt ?_) (fun q => kf ?_) <;> simp only [e1, e2, e3, e4, e5, ne_eq, gt_iff_lt, ge_iff_le, Nat.not_lt, Nat.not_le, Decidable.not_not] at q <;> exact q
theorem z_icmp_neN {a b : Nat} {off : Int} {tgt : Nat} (hX : ZOK X oc B d) (hd : decode B pc = .ok (.if_icmp .ne off, 3)) (ht : (pc : Int) + off = (tgt : Int)) (ha : a < 2147483648) (hb : b < 2147483648) (kt : ¬ a = b → ZG X tgt ls st w) (kf : a = b → ZG X (pc + 3) ls st w) : ZG X pc ls (.int (nI b) :: .int (nI a) :: st) w := by
  have e1 := nI_eq ha hb
  have e2 := nI_ltI ha hb
  have e3 := nI_leI hb ha
  have e4 := nI_ltI hb ha
  have e5 := nI_leI ha hb
  refine z_icmp_ne hX hd ht (fun q => kt ?_) (fun q => kf ?_) <;> simp only [e1, e2, e3, e4, e5, ne_eq, gt_iff_lt, ge_iff_le, Nat.not_lt, Nat.not_le, Decidable.not_not] at q <;> exact q
theorem z_icmp_ltN {a b : Nat} {off : Int} {tgt : Nat} (hX : ZOK X oc B d) (hd : decode B pc = .ok (.if_icmp .lt off, 3)) (ht : (pc : Int) + off = (tgt : Int)) (ha : a < 2147483648) (hb : b < 2147483648) (kt : a < b → ZG X tgt ls st w) (kf : b ≤ a → ZG X (pc + 3) ls st w) : ZG X pc ls (.int (nI b) :: .int (nI a) :: st) w := by
  have e1 := nI_eq ha hb
  have e2 := nI_ltI ha hb
  have e3 := nI_leI hb ha
  have e4 := nI_ltI hb ha
  have e5 := nI_leI ha hb
  refine z_icmp_lt hX hd ht (fun q => kt ?_) (fun q => kf ?_) <;> simp only [e1, e2, e3, e4, e5, ne_eq, gt_iff_lt, ge_iff_le, Nat.not_lt, Nat.not_le, Decidable.not_not] at q <;> exact q
theorem z_icmp_geN {a b : Nat} {off : Int} {tgt : Nat} (hX : ZOK X oc B d) (hd : decode B pc = .ok (.if_icmp .ge off, 3)) (ht : (pc : Int) + off = (tgt : Int)) (ha : a < 2147483648) (hb : b < 2147483648) (kt : b ≤ a → ZG X tgt ls st w) (kf : a < b → ZG X (pc + 3) ls st w) : ZG X pc ls (.int (nI b) :: .int (nI a) :: st) w := by
  have e1 := nI_eq ha hb
  have e2 := nI_ltI ha hb
  have e3 := nI_leI hb ha
  have e4 := nI_ltI hb ha
  have e5 := nI_leI ha hb
  refine z_icmp_ge hX hd ht (fun q => kt ?_) (fun q => kf ?_) <;> simp only [e1, e2, e3, e4, e5, ne_eq, gt_iff_lt, ge_iff_le, Nat.not_lt, Nat.not_le, Decidable.not_not] at q <;> exact q
theorem z_icmp_gtN {a b : Nat} {off : Int} {tgt : Nat} (hX : ZOK X oc B d) (hd : decode B pc = .ok (.if_icmp .gt off, 3)) (ht : (pc : Int) + off = (tgt : Int)) (ha : a < 2147483648) (hb : b < 2147483648) (kt : b < a → ZG X tgt ls st w) (kf : a ≤ b → ZG X (pc + 3) ls st w) : ZG X pc ls (.int (nI b) :: .int (nI a) :: st) w := by
  have e1 := nI_eq ha hb
  have e2 := nI_ltI ha hb
  have e3 := nI_leI hb ha
  have e4 := nI_ltI hb ha
  have e5 := nI_leI ha hb
  refine z_icmp_gt hX hd ht (fun q => kt ?_) (fun q => kf ?_) <;> simp only [e1, e2, e3, e4, e5, ne_eq, gt_iff_lt, ge_iff_le, Nat.not_lt, Nat.not_le, Decidable.not_not] at q <;> exact q
theorem z_icmp_leN {a b : Nat} {off : Int} {tgt : Nat} (hX : ZOK X oc B d) (hd : decode B pc = .ok (.if_icmp .le off, 3)) (ht : (pc : Int) + off = (tgt : Int)) (ha : a < 2147483648) (hb : b < 2147483648) (kt : a ≤ b → ZG X tgt ls st w) (kf : b < a → ZG X (pc + 3) ls st w) : ZG X pc ls (.int (nI b) :: .int (nI a) :: st) w := by
  have e1 := nI_eq ha hb
  have e2 := nI_ltI ha hb
  have e3 := nI_leI hb ha
  have e4 := nI_ltI hb ha
  have e5 := nI_leI ha hb
  refine z_icmp_le hX hd ht (fun q => kt ?_) (fun q => kf ?_) <;> simp only [e1, e2, e3, e4, e5, ne_eq, gt_iff_lt, ge_iff_le, Nat.not_lt, Nat.not_le, Decidable.not_not] at q <;> exact q
theorem z_lif_eq {x y : Int64} {off : Int} {tgt : Nat} (hX : ZOK X oc B d) (hd : decode B pc = .ok (.ifCond .eq off, 3)) (ht : (pc : Int) + off = (tgt : Int)) (kt : x = y → ZG X tgt ls st w) (kf : ¬ x = y → ZG X (pc + 3) ls st w) : ZG X pc ls (.int (lg_cmp x y) :: st) w := by
  refine z_if_eq hX hd ht (fun q => kt ?_) (fun q => kf ?_)
  · exact zlg_eq x y q
  · exact zlg_neq x y q
theorem z_lif_ne {x y : Int64} {off : Int} {tgt : Nat} (hX : ZOK X oc B d) (hd : decode B pc = .ok (.ifCond .ne off, 3)) (ht : (pc : Int) + off = (tgt : Int)) (kt : ¬ x = y → ZG X tgt ls st w) (kf : x = y → ZG X (pc + 3) ls st w) : ZG X pc ls (.int (lg_cmp x y) :: st) w := by
  refine z_if_ne hX hd ht (fun q => kt ?_) (fun q => kf ?_)
  · exact zlg_ne x y q
  · exact zlg_nne x y q
theorem z_lif_lt {x y : Int64} {off : Int} {tgt : Nat} (hX : ZOK X oc B d) (hd : decode B pc = .ok (.ifCond .lt off, 3)) (ht : (pc : Int) + off = (tgt : Int)) (kt : x < y → ZG X tgt ls st w) (kf : y ≤ x → ZG X (pc + 3) ls st w) : ZG X pc ls (.int (lg_cmp x y) :: st) w := by
  refine z_if_lt hX hd ht (fun q => kt ?_) (fun q => kf ?_)
  · exact zlg_lt x y q
  · exact zlg_nlt x y q
theorem z_lif_ge {x y : Int64} {off : Int} {tgt : Nat} (hX : ZOK X oc B d) (hd : decode B pc = .ok (.ifCond .ge off, 3)) (ht : (pc : Int) + off = (tgt : Int)) (kt : y ≤ x → ZG X tgt ls st w) (kf : x < y → ZG X (pc + 3) ls st w) : ZG X pc ls (.int (lg_cmp x y) :: st) w := by
  refine z_if_ge hX hd ht (fun q => kt ?_) (fun q => kf ?_)
  · exact zlg_ge x y q
  · exact zlg_nge x y q
theorem z_lif_gt {x y : Int64} {off : Int} {tgt : Nat} (hX : ZOK X oc B d) (hd : decode B pc = .ok (.ifCond .gt off, 3)) (ht : (pc : Int) + off = (tgt : Int)) (kt : y < x → ZG X tgt ls st w) (kf : x ≤ y → ZG X (pc + 3) ls st w) : ZG X pc ls (.int (lg_cmp x y) :: st) w := by
  refine z_if_gt hX hd ht (fun q => kt ?_) (fun q => kf ?_)
  · exact zlg_gt x y q
  · exact zlg_ngt x y q
theorem z_lif_le {x y : Int64} {off : Int} {tgt : Nat} (hX : ZOK X oc B d) (hd : decode B pc = .ok (.ifCond .le off, 3)) (ht : (pc : Int) + off = (tgt : Int)) (kt : x ≤ y → ZG X tgt ls st w) (kf : y < x → ZG X (pc + 3) ls st w) : ZG X pc ls (.int (lg_cmp x y) :: st) w := by
  refine z_if_le hX hd ht (fun q => kt ?_) (fun q => kf ?_)
  · exact zlg_le x y q
  · exact zlg_nle x y q
end ZR
