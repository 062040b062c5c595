/-! ===== rows of references, final fields, Object's constructor ===== -/
/-- the words on a nest mate's constructors, and on arrays of references -/
def zAOA (U : State) : Prop := (Cond.arrayOver (.array .long)).before #[] U = true
def zni (U : State) : Prop := (va_Nw (.methodLinkNest RX5 11 yX0_init RX5) U ∧ va_Nw (.methodLinkNest RX5 36 yX1_init RX5) U ∧ va_Nw (.methodLinkNest RX5 45 yX3_init RX5) U ∧ va_Nw (.methodLinkNest RX5 46 yX4_init RX5) U ∧ va_Nw (.methodLinkNest RX5 47 yX2_init RX5) U) ∧ (va_AO "WindBoxes$Sheet" U ∧ va_AO "WindBoxes$Stuff" U ∧ va_AO "WindBoxes$Log" U) ∧ zAOA U
theorem zni.warm {s U : State} (hW : s.WarmedH U.vm) (h : zni s) : zni U := ⟨⟨h.1.1.warmM hW, h.1.2.1.warmM hW, h.1.2.2.1.warmM hW, h.1.2.2.2.1.warmM hW, h.1.2.2.2.2.warmM hW⟩, ⟨h.2.1.1.moved hW.alike, h.2.1.2.1.moved hW.alike, h.2.1.2.2.moved hW.alike⟩, arrayOver_alikeB hW.alike h.2.2⟩
theorem zni.same {u U : State} (hv : u.vm = U.vm) (h : zni u) : zni U := by
  have ha : u.vm.Alike U.vm := hv ▸ Vm.Alike.refl u.vm
  exact ⟨⟨h.1.1.same rfl hv, h.1.2.1.same rfl hv, h.1.2.2.1.same rfl hv, h.1.2.2.2.1.same rfl hv, h.1.2.2.2.2.same rfl hv⟩, ⟨h.2.1.1.moved ha, h.2.1.2.1.moved ha, h.2.1.2.2.moved ha⟩, arrayOver_alikeB ha h.2.2⟩
def ZNI (X : ZX) : Prop := match X with
  | (_, _, _, _, s, _, _, _, _, _, _, _, _, _, _, _, _, _) => zni s
def ZIn (X : ZX) : Prop := match X with
  | (_, _, _, _, _, _, _, _, meth, _, _, _, _, _, _, _, _, _) => meth.name = "<init>"
/-- the same of a final field, written in its own class's constructor -/
def ZPF (oc idx ci k : Nat) (ty0 : FieldType) : Prop := ∃ (C : String) (T : u_T) (N : Nat) (ty : Nat → FieldType), vwCl[ci]? = some (C, T, N) ∧ k < N ∧ ci < 100 ∧ Cond.fieldLink (zcn oc) idx C (T k).2.1 (T k).2.2.1 ∈ zwd ∧ (T k).1 = C ∧ (∀ w ∈ u_ws C T N, w ∈ zwd) ∧ (∀ k, k < N → parseFieldDescriptor (T k).2.2.1 = some (ty k)) ∧ (∀ a, a < N → ∀ b, b < N → a ≠ b → (T a).2.1 ≠ (T b).2.1) ∧ (T k).2.2.2 = true ∧ ty k = ty0 ∧ C = zcn oc
section ZA2
variable {X0 X : ZX} {oc d pc n cells slots mc ms : Nat} {B : ByteArray} {ls : List (Option Value)} {st : List Value} {w : ZW}
theorem ZKp.ni (hk : ZKp X0 X n cells slots) (h : ZNI X0) : ZNI X := by
  obtain ⟨p0, l0, e0, R0, s0, m0, args0, below0, meth0, c0, D0, cy0, ad0, A0, n0, cells0, slots0, Q0⟩ := X0
  obtain ⟨ad1, e1, e2, e3⟩ := hk
  subst e1
  exact h
theorem ZKp.in (hk : ZKp X0 X n cells slots) (h : ZIn X0) : ZIn X := by
  obtain ⟨p0, l0, e0, R0, s0, m0, args0, below0, meth0, c0, D0, cy0, ad0, A0, n0, cells0, slots0, Q0⟩ := X0
  obtain ⟨ad1, e1, e2, e3⟩ := hk
  subst e1
  exact h
theorem ZKp.num {p : Program} {l : Launch} {e : Env} {R : Room} {s : State} {m : MethodId} {args : Array Value} {below : List Frame} {meth : Method} {c : Code} {D : va_G} {cy ad : Nat → Nat} {A : Nat → Prop} {n' cells' slots' : Nat} {Q : State → Prop} (hk : ZKp X0 (p, l, e, R, s, m, args, below, meth, c, D, cy, ad, A, n', cells', slots', Q) n cells slots) : n' = n ∧ cells' = cells ∧ slots' = slots := by
  obtain ⟨p0, l0, e0, R0, s0, m0, args0, below0, meth0, c0, D0, cy0, ad0, A0, n0, cells0, slots0, Q0⟩ := X0
  obtain ⟨ad1, e1, e2, e3⟩ := hk
  cases e1
  exact ⟨rfl, rfl, rfl⟩
theorem z_putF {idx ci k q r : Nat} {fs : List Value} {ty0 : FieldType} {fs' : List Value} {w' : ZW} (hX : ZOK X oc B d) (hin : ZIn X) (hd : decode B pc = .ok (.putfield idx, 3)) (hf : ZPF oc idx ci k ty0) (hw : w[q]? = some (.inr (ci, fs))) (hn : ∀ a, narrow ty0 (.ref a) = .ref a) (hfit : ∀ a, fits ty0 (.ref a) = true) (hl : k < fs.length) (hfs : fs.set k (.ref r) = fs') (hw' : w.set q (.inr (ci, fs')) = w') (kk : ZG X (pc + 3) ls st w') : ZG X pc ls (.ref r :: .ref q :: st) w := by
  subst hfs
  subst hw'
  obtain ⟨p, l, e, R, s, m, args, below, meth, c, D, cy, ad, A, n, cells, slots, Q⟩ := X
  intro H locs lsA h1 h2 h3 h4
  obtain ⟨hx, hb, hown, hts, hK, hI, hA, -⟩ := hX
  obtain ⟨C, T, N, ty, f1, f2, f3, f4, f5, f6, f7, f8, f9, f10, f11⟩ := hf
  have he : (zcw cy ad w)[q]? = some (ad q, .inr (ci, fs.map (zv ad))) := by rw [zcw_get hw, zce_obj f3]
  refine va_putF (D := D) (C := C) (T := T) (N := N) (ty := ty0) (v := .ref (ad r)) hx hb hts f6 ty f7 f8 hown hK h2 (hI.D hA h1) h3 q he f1 k f2 (hts _ f4) (fun x hx => by rw [f5] at hx; exact hx) f9 hin (by rw [f5, f11]) (by rw [f7 k f2, f10]) (hn _) (hfit _) (by rw [List.length_map]; exact hl) hd (fun H1 locs1 g1 g2 g3 => ?_)
  refine kk H1 locs1 lsA (by rw [List.length_set]; exact h1) ?_ g3 h4
  rw [← zcw_set, zce_obj f3, List.map_set]
  exact g1
theorem ko_i : Cond.instanceMethod objectInit ∈ zwd := by decide +kernel
theorem ko_c : Cond.code objectInit ⟨#[0xb1]⟩ 1 none ∈ zwd := by decide +kernel
theorem z_objInit {idx q : Nat} (hX : ZOK X oc B d) (hd : decode B pc = .ok (.invokespecial idx, 3)) (hl : Cond.methodLink (zcn oc) idx objectInit ∈ zwd) (hdd : 1 ≤ d) (hrs : (st.map Value.category).sum ≤ 8) (kk : ZG X (pc + 3) ls st w) : ZG X pc ls (.ref q :: st) w := by
  obtain ⟨p, l, e, R, s, m, args, below, meth, c, D, cy, ad, A, n, cells, slots, Q⟩ := X
  intro H locs lsA h1 h2 h3 h4
  obtain ⟨hx, hb, hown, hts, hK, hI, hA, hS, ⟨hfr, hlo⟩, -⟩ := hX
  have hsum := zrs (ad := ad) hrs
  refine W.objInit hx hb hown (hts _ hl) (hts _ ko_i) (hts _ ko_c) rfl h4.2.1 (rest := st.map (zv ad)) (a := ad q) rfl hd (by omega) (Nat.le_trans (Nat.add_le_add_right (lv_room hsum) 12) (by omega)) (kk H locs lsA h1 h2 h3 h4)
end ZA2
