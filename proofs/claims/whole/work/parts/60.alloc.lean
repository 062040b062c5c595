/-! ===== making cells: a world grows at its end ===== -/
def zex (ad : Nat → Nat) (n m : Nat) (qs : Nat → Nat) : Nat → Nat := fun k => if n ≤ k ∧ k < n + m then qs (k - n) else ad k
def zfv (n m : Nat) (v : Value) : Bool := match v with
  | .ref k => !(Nat.ble n k && Nat.blt k (n + m))
  | _ => true
def zfe (n m : Nat) (e : ZE) : Bool := match e with
  | .inl _ => true
  | .inr (_, fs) => fs.all (zfv n m)
def zfo (n m : Nat) (o : Option Value) : Bool := match o with
  | some v => zfv n m v
  | none => true
theorem zfv_ref {n m k : Nat} (h : zfv n m (.ref k) = true) : ¬ (n ≤ k ∧ k < n + m) := by
  intro q
  have h1 : Nat.ble n k = true := Nat.ble_eq.mpr q.1
  have h2 : Nat.blt k (n + m) = true := Nat.blt_eq.mpr q.2
  have h3 : (!(Nat.ble n k && Nat.blt k (n + m))) = true := h
  rw [h1, h2] at h3
  cases h3
section ZEX
variable {ad : Nat → Nat} {n m : Nat} {qs : Nat → Nat} {cy : Nat → Nat}
theorem zex_out {k : Nat} (h : ¬ (n ≤ k ∧ k < n + m)) : zex ad n m qs k = ad k := if_neg h
theorem zv_ex {v : Value} (h : zfv n m v = true) : zv (zex ad n m qs) v = zv ad v := by
  cases v with
  | ref k =>
    show Value.ref _ = Value.ref _
    rw [zex_out (zfv_ref h)]
  | _ => rfl
theorem zr_ex {v : Value} (h : zfv n m v = true) : zr (zex ad n m qs) v = zr ad v := by
  cases v with
  | ref k =>
    show some _ = some _
    rw [zex_out (zfv_ref h)]
  | _ => rfl
theorem zce_ex {e : ZE} (h : zfe n m e = true) : zce cy (zex ad n m qs) e = zce cy ad e := by
  match e, h with
  | .inl (t, k, .inl f), _ => rfl
  | .inl (t, k, .inr f), _ => rfl
  | .inr (ci, fs), h =>
    have hv := List.all_eq_true.mp h
    by_cases hc : ci < 100
    · rw [zce_obj hc, zce_obj hc]
      congr 2
      exact List.map_congr_left (fun v hm => zv_ex (hv v hm))
    · rw [zce_row hc, zce_row hc]
      congr 7
      funext j
      cases hj : fs[j]? with
      | none => rfl
      | some v => exact zr_ex (hv v (List.mem_of_getElem? hj))
theorem zcw_ex {w : ZW} (hl : w.length ≤ n) (h : w.all (zfe n m) = true) : zcw cy (zex ad n m qs) w = zcw cy ad w := by
  apply List.ext_getElem?
  intro k
  rw [zcw_at, zcw_at]
  cases hk : w[k]? with
  | none => rfl
  | some e =>
    have h1 := (List.getElem?_eq_some_iff.mp hk).1
    show some (zex ad n m qs k, zce cy (zex ad n m qs) e) = some (ad k, zce cy ad e)
    rw [zex_out (by omega), zce_ex (List.all_eq_true.mp h e (List.mem_of_getElem? hk))]
theorem ZL_ex {nL : Nat} {ls : List (Option Value)} {lsA : Array Slot} (hl : ls.all (zfo n m) = true) (h : ZL ad nL ls lsA) : ZL (zex ad n m qs) nL ls lsA := by
  refine ⟨h.1, h.2.1, h.2.2.1, fun q hq => h.2.2.2 q ?_⟩
  obtain ⟨v, h1, h2⟩ := zlv_mem.mp hq
  exact zlv_mem.mpr ⟨v, h1, h2.trans (zv_ex (List.all_eq_true.mp hl (some v) (List.mem_of_getElem? h1)))⟩
theorem zst_ex {st : List Value} (h : st.all (zfv n m) = true) : st.map (zv (zex ad n m qs)) = st.map (zv ad) := List.map_congr_left (fun v hm => zv_ex (List.all_eq_true.mp h v hm))
theorem zcw_app {w : ZW} {e : ZE} {q : Nat} (hl : w.length = n) (h : w.all (zfe n 1) = true) (he : zfe n 1 e = true) : zcw cy (zex ad n 1 (fun _ => q)) (w ++ [e]) = zcw cy ad w ++ [(q, zce cy ad e)] := by
  rw [← zcw_ex (qs := fun _ => q) (Nat.le_of_eq hl) h]
  unfold zcw
  rw [List.mapIdx_append]
  congr 1
  show [(zex ad n 1 (fun _ => q) (0 + w.length), zce cy (zex ad n 1 (fun _ => q)) e)] = [(q, zce cy ad e)]
  rw [zce_ex he, Nat.zero_add, hl]
  unfold zex
  rw [if_pos ⟨Nat.le_refl n, Nat.lt_succ_self n⟩]
theorem zD_inj {A : Nat → Prop} {w : ZW} (h : va_D A (zcw cy ad w)) : ZInj ad w.length ∧ ∀ i, i < w.length → A (ad i) := by
  refine ⟨fun i j hi hj e => ?_, fun i hi => ?_⟩
  · exact h.1 i j _ _ (zcw_get (List.getElem?_eq_getElem hi)) (zcw_get (List.getElem?_eq_getElem hj)) e
  · exact h.2 i _ (zcw_get (List.getElem?_eq_getElem hi))
end ZEX
/-- X is X0 but for the addresses of new cells and the counts -/
def ZKp (X0 X : ZX) (n cells slots : Nat) : Prop := match X0 with
  | (p, l, e, R, s, m, args, below, meth, c, D, cy, ad0, A, n0, _, _, Q) => ∃ ad, X = (p, l, e, R, s, m, args, below, meth, c, D, cy, ad, A, n, cells, slots, Q) ∧ n0 ≤ n ∧ ∀ k, k < n0 ∨ 1000 ≤ k → ad k = ad0 k
def ZRm (X0 : ZX) (mc ms : Nat) : Prop := match X0 with
  | (_, _, _, R, _, _, _, _, _, _, _, _, _, _, _, _, _, _) => mc ≤ R.cells ∧ ms ≤ R.slots
def zfr (n m : Nat) (ls : List (Option Value)) (st : List Value) (w : ZW) : Bool := ls.all (zfo n m) && (st.all (zfv n m) && w.all (zfe n m))
theorem zfr_spec {n m : Nat} {ls : List (Option Value)} {st : List Value} {w : ZW} (h : zfr n m ls st w = true) : ls.all (zfo n m) = true ∧ st.all (zfv n m) = true ∧ w.all (zfe n m) = true := by
  unfold zfr at h
  rw [Bool.and_eq_true, Bool.and_eq_true] at h
  exact h
section ZGR
variable {X0 : ZX} {p : Program} {l : Launch} {e : Env} {R : Room} {s : State} {m : MethodId} {args : Array Value} {below : List Frame} {meth : Method} {c : Code} {D : va_G} {cy ad : Nat → Nat} {A : Nat → Prop} {n cells slots : Nat} {Q : State → Prop} {oc d pc : Nat} {B : ByteArray} {ls : List (Option Value)} {st : List Value} {w : ZW}
theorem z_grow {mm cells' slots' pc' : Nat} {qs : Nat → Nat} {es : ZW} {H1 : Heap} {locs : List Loc} {lsA : Array Slot} {stA : List Value} (hX : ZOK (p, l, e, R, s, m, args, below, meth, c, D, cy, ad, A, n, cells, slots, Q) oc B d) (hk : ZKp X0 (p, l, e, R, s, m, args, below, meth, c, D, cy, ad, A, n, cells, slots, Q) n cells slots) (hw : w.length = n) (hes : es.length = mm) (hm : n + mm ≤ 1000) (hP1 : va_P D vwCl (zcw cy (zex ad n mm qs) (w ++ es)) H1) (hI1 : ZInj (zex ad n mm qs) (n + mm)) (hA1 : ∀ i, i < n + mm → A (zex ad n mm qs i)) (hS1 : va_S A s.heap H1 locs) (h4 : ZL ad c.maxLocals ls lsA) (hls : ls.all (zfo n mm) = true) (hc : cells' ≤ R.cells ∧ slots' ≤ R.slots) (hst : stA = st.map (zv (zex ad n mm qs)))
    (kk : ∀ X', ZOK X' oc B d → ZKp X0 X' (n + mm) cells' slots' → ZG X' pc' ls st (w ++ es)) : W p l e R s m args below meth c H1 locs cells' slots' Q (F0 m pc' lsA stA) := by
  subst hst
  obtain ⟨hx, hb, hown, hts, hK, hI, hA, hS, hfr, hce, hA2⟩ := hX
  refine kk (p, l, e, R, s, m, args, below, meth, c, D, cy, zex ad n mm qs, A, n + mm, cells', slots', Q) ⟨hx, hb, hown, hts, hK, hI1, hA1, hS.re (zex_out (by omega)) (zex_out (by omega)) (zex_out (by omega)), hfr, hc, hA2⟩ ?_ H1 locs lsA (by rw [List.length_append, hw, hes]) hP1 hS1 (ZL_ex hls h4)
  obtain ⟨p0, l0, e0, R0, s0, m0, args0, below0, meth0, c0, D0, cy0, ad0, A0, n0, cells0, slots0, Q0⟩ := X0
  obtain ⟨ad1, e1, e2, e3⟩ := hk
  cases e1
  exact ⟨_, rfl, by omega, fun k hk => by rw [zex_out (by omega)]; exact e3 k hk⟩
theorem z_grow1 {q cells' slots' pc' : Nat} {en : ZE} {H1 : Heap} {locs : List Loc} {lsA : Array Slot} (hX : ZOK (p, l, e, R, s, m, args, below, meth, c, D, cy, ad, A, n, cells, slots, Q) oc B d) (hk : ZKp X0 (p, l, e, R, s, m, args, below, meth, c, D, cy, ad, A, n, cells, slots, Q) n cells slots) (hw : w.length = n) (hm : n < 1000) (hP1 : va_P D vwCl (zcw cy ad w ++ [(q, zce cy ad en)]) H1) (hD1 : va_D A (zcw cy ad w ++ [(q, zce cy ad en)])) (hS1 : va_S A s.heap H1 locs) (h4 : ZL ad c.maxLocals ls lsA) (hf : zfr n 1 ls st w = true) (hfe : zfe n 1 en = true) (hc : cells' ≤ R.cells ∧ slots' ≤ R.slots)
    (kk : ∀ X', ZOK X' oc B d → ZKp X0 X' (n + 1) cells' slots' → ZG X' pc' ls (.ref n :: st) (w ++ [en])) : W p l e R s m args below meth c H1 locs cells' slots' Q (F0 m pc' lsA (.ref q :: st.map (zv ad))) := by
  obtain ⟨f1, f2, f3⟩ := zfr_spec hf
  rw [← zcw_app hw f3 hfe] at hP1 hD1
  have hl : (w ++ [en]).length = n + 1 := by rw [List.length_append, hw]; rfl
  obtain ⟨hI1, hA1⟩ := zD_inj hD1
  rw [hl] at hI1 hA1
  refine z_grow (mm := 1) (qs := fun _ => q) hX hk hw rfl (by omega) hP1 hI1 hA1 hS1 h4 f1 hc ?_ kk
  rw [List.map_cons, zst_ex f2]
  show _ = Value.ref (zex ad n 1 (fun _ => q) n) :: _
  unfold zex
  rw [if_pos ⟨Nat.le_refl n, Nat.lt_succ_self n⟩]
end ZGR
theorem zcA {D : va_G} {cy : Nat → Nat} {s : State} {t : Nat} {ty : FieldType} {cA : ClassId} (hK : va_K D vwCl (ztys cy) s) (hK2 : va_K D vwCl (ztys cy ++ [(cA, ty)]) s) (ht : (ztys cy)[t]? = some (cy t, ty)) : cA = cy t := by
  have h1 := (hK.2 t _ ht).2
  have h2 := (hK2.2 7 (cA, ty) rfl).2
  cases ty with
  | object C =>
    obtain ⟨_, _, _, _, _, e1⟩ := h1
    obtain ⟨_, _, _, _, _, e2⟩ := h2
    exact Option.some.inj (e2.symm.trans e1)
  | _ => exact Option.some.inj (h2.symm.trans h1)
def ZNw (oc idx ci N : Nat) (fs : List Value) : Prop := ∃ (C : String) (T : u_T) (ty : Nat → FieldType), vwCl[ci]? = some (C, T, N) ∧ ci < 100 ∧ (∀ w ∈ u_ws C T N, w ∈ zwd) ∧ (∀ k, k < N → parseFieldDescriptor (T k).2.2.1 = some (ty k)) ∧ Cond.classLink (zcn oc) idx C ∈ zwd ∧ Cond.instantiable C N ∈ zwd ∧ Cond.initialized C ∈ zwd ∧ (∀ j, j < N → defaultValue (ty j) = vp_V fs j) ∧ ∀ ad, fs.map (zv ad) = fs
section ZNEW
variable {X0 X : ZX} {oc d pc n cells slots mc ms : Nat} {B : ByteArray} {ls : List (Option Value)} {st : List Value} {w : ZW}
theorem ZKp.rm {mc ms : Nat} (hk : ZKp X0 X n cells slots) (h : ZRm X0 mc ms) : ZRm X mc ms := by
  obtain ⟨p0, l0, e0, R0, s0, m0, args0, below0, meth0, c0, D0, cy0, ad0, A0, n0, cells0, slots0, Q0⟩ := X0
  obtain ⟨ad1, e1, e2, e3⟩ := hk
  subst e1
  exact h
theorem z_newa {t N : Nat} {atype : ArrayType} {ty : FieldType} {en : ZE} {a0 : vp_A} (hX : ZOK X oc B d) (hk : ZKp X0 X n cells slots) (hrm : ZRm X0 mc ms) (hroom : cells + 1 ≤ mc ∧ slots + N ≤ ms) (hd : decode B pc = .ok (.newarray atype, 2)) (hty : newarray.typeOf atype = ty) (hin : Cond.arrayClass ty ∈ zwd) (ht : ∀ cy : Nat → Nat, (ztys cy)[t]? = some (cy t, ty)) (ha : ∀ cA : ClassId, vp_cell cA a0 = arrV cA N (fun _ => defaultValue ty)) (he : ∀ cy ad : Nat → Nat, zce cy ad en = .inl (cy t, a0)) (hfe : zfe n 1 en = true) (hbytes : N * componentBytes ty ≤ 536870912) (hN : N < 2147483648) (hw : w.length = n) (hm : n < 1000) (hf : zfr n 1 ls st w = true)
    (kk : ∀ X', ZOK X' oc B d → ZKp X0 X' (n + 1) (cells + 1) (slots + N) → ZG X' (pc + 2) ls (.ref n :: st) (w ++ [en])) : ZG X pc ls (.int (nI N) :: st) w := by
  have hrm2 := hk.rm hrm
  obtain ⟨p, l, e, R, s, m, args, below, meth, c, D, cy, ad, A, n', cells', slots', Q⟩ := X
  intro H locs lsA h1 h2 h3 h4
  have hX0 := hX
  obtain ⟨hx, hb, hown, hts, hK, hI, hA, hS, -, -, hA2⟩ := hX
  have hn' : n' = n ∧ cells' = cells ∧ slots' = slots := by
    obtain ⟨p0, l0, e0, R0, s0, m0, args0, below0, meth0, c0, D0, cy0, ad0, A0, n0, cells0, slots0, Q0⟩ := X0
    obtain ⟨ad1, e1, e2, e3⟩ := hk
    cases e1
    exact ⟨rfl, rfl, rfl⟩
  obtain ⟨rfl, rfl, rfl⟩ := hn'
  refine va_newa hx hb (hty ▸ hts _ hin) hty hK h2 (hI.D hA h1) h3 hA2 ha (nI_pos hN) (nI_clamp hN) hbytes (by have := hrm2.1; omega) (by have := hrm2.2; omega) hd (fun q cA H1 hK1 hP1 hD1 hS1 => ?_)
  have ec := zcA hK hK1 (ht cy)
  subst ec
  rw [← he cy ad] at hP1 hD1
  exact z_grow1 hX0 hk h1 hm hP1 hD1 hS1 h4 hf hfe ⟨by have := hrm2.1; omega, by have := hrm2.2; omega⟩ kk
theorem ka_i : Cond.arrayClass .int ∈ zwd := by decide +kernel
theorem ka_l : Cond.arrayClass .long ∈ zwd := by decide +kernel
theorem ka_z : Cond.arrayClass .boolean ∈ zwd := by decide +kernel
theorem z_newI {N : Nat} (hX : ZOK X oc B d) (hk : ZKp X0 X n cells slots) (hrm : ZRm X0 mc ms) (hroom : cells + 1 ≤ mc ∧ slots + N ≤ ms) (hd : decode B pc = .ok (.newarray .int, 2)) (hN : N ≤ 2000) (hw : w.length = n) (hm : n < 1000) (hf : zfr n 1 ls st w = true) (kk : ∀ X', ZOK X' oc B d → ZKp X0 X' (n + 1) (cells + 1) (slots + N) → ZG X' (pc + 2) ls (.ref n :: st) (w ++ [.inl (0, N, .inl (fun _ => 0))])) : ZG X pc ls (.int (nI N) :: st) w :=
  z_newa (t := 0) (a0 := (N, .inl (fun _ => 0))) hX hk hrm hroom hd rfl ka_i (fun _ => rfl) (fun _ => rfl) (fun _ _ => rfl) rfl (by show N * 4 ≤ _; omega) (by omega) hw hm hf kk
theorem z_newL {N : Nat} (hX : ZOK X oc B d) (hk : ZKp X0 X n cells slots) (hrm : ZRm X0 mc ms) (hroom : cells + 1 ≤ mc ∧ slots + N ≤ ms) (hd : decode B pc = .ok (.newarray .long, 2)) (hN : N ≤ 2000) (hw : w.length = n) (hm : n < 1000) (hf : zfr n 1 ls st w = true) (kk : ∀ X', ZOK X' oc B d → ZKp X0 X' (n + 1) (cells + 1) (slots + N) → ZG X' (pc + 2) ls (.ref n :: st) (w ++ [.inl (1, N, .inr (fun _ => 0))])) : ZG X pc ls (.int (nI N) :: st) w :=
  z_newa (t := 1) (a0 := (N, .inr (.inl (fun _ => 0)))) hX hk hrm hroom hd rfl ka_l (fun _ => rfl) (fun _ => rfl) (fun _ _ => rfl) rfl (by show N * 8 ≤ _; omega) (by omega) hw hm hf kk
theorem z_newZ {N : Nat} (hX : ZOK X oc B d) (hk : ZKp X0 X n cells slots) (hrm : ZRm X0 mc ms) (hroom : cells + 1 ≤ mc ∧ slots + N ≤ ms) (hd : decode B pc = .ok (.newarray .boolean, 2)) (hN : N ≤ 2000) (hw : w.length = n) (hm : n < 1000) (hf : zfr n 1 ls st w = true) (kk : ∀ X', ZOK X' oc B d → ZKp X0 X' (n + 1) (cells + 1) (slots + N) → ZG X' (pc + 2) ls (.ref n :: st) (w ++ [.inl (2, N, .inl (fun _ => 0))])) : ZG X pc ls (.int (nI N) :: st) w :=
  z_newa (t := 2) (a0 := (N, .inl (fun _ => 0))) hX hk hrm hroom hd rfl ka_z (fun _ => rfl) (fun _ => rfl) (fun _ _ => rfl) rfl (by show N * 1 ≤ _; omega) (by omega) hw hm hf kk
theorem z_newo {idx ci N : Nat} {fs : List Value} (hX : ZOK X oc B d) (hk : ZKp X0 X n cells slots) (hrm : ZRm X0 mc ms) (hroom : cells + 1 ≤ mc ∧ slots + N ≤ ms) (hd : decode B pc = .ok (.new idx, 3)) (hz : ZNw oc idx ci N fs) (hfe : zfe n 1 (.inr (ci, fs)) = true) (hw : w.length = n) (hm : n < 1000) (hf : zfr n 1 ls st w = true) (kk : ∀ X', ZOK X' oc B d → ZKp X0 X' (n + 1) (cells + 1) (slots + N) → ZG X' (pc + 3) ls (.ref n :: st) (w ++ [.inr (ci, fs)])) : ZG X pc ls st w := by
  have hrm2 := hk.rm hrm
  obtain ⟨p, l, e, R, s, m, args, below, meth, c, D, cy, ad, A, n', cells', slots', Q⟩ := X
  intro H locs lsA h1 h2 h3 h4
  have hX0 := hX
  obtain ⟨hx, hb, hown, hts, hK, hI, hA, hS, -, -, hA2⟩ := hX
  have hn' : n' = n ∧ cells' = cells ∧ slots' = slots := by
    obtain ⟨p0, l0, e0, R0, s0, m0, args0, below0, meth0, c0, D0, cy0, ad0, A0, n0, cells0, slots0, Q0⟩ := X0
    obtain ⟨ad1, e1, e2, e3⟩ := hk
    cases e1
    exact ⟨rfl, rfl, rfl⟩
  obtain ⟨rfl, rfl, rfl⟩ := hn'
  obtain ⟨C, T, ty, f1, f2, f3, f4, f5, f6, f7, f8, f9⟩ := hz
  refine va_new (ci := ci) (fs := fs) (C := C) (T := T) (N := N) hx hb hts f3 ty f4 hown (hts _ f5) (hts _ f6) (hts _ f7) hK h2 (hI.D hA h1) h3 hA2 f1 f8 (by have := hrm2.1; omega) (by have := hrm2.2; omega) hd (fun q H1 hP1 hD1 hS1 => ?_)
  have he : zce cy ad (.inr (ci, fs)) = .inr (ci, fs) := by rw [zce_obj f2, f9]
  rw [← he] at hP1 hD1
  exact z_grow1 hX0 hk h1 hm hP1 hD1 hS1 h4 hf hfe ⟨by have := hrm2.1; omega, by have := hrm2.2; omega⟩ kk
end ZNEW
