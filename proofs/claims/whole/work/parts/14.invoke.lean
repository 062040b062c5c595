/-! ===== invoke ===== -/
def ZMV (oc idx : Nat) (C : String) (y : MethodName) (By : ByteArray) (maxL : Nat) (ret : Option FieldType) (np : Nat) : Prop := (Cond.methodLink (zcn oc) idx y ∈ zwd ∧ Cond.instanceMethod y ∈ zwd ∧ Cond.selects C y y ∈ zwd ∧ Cond.initialized C ∈ zwd ∧ Cond.code y By maxL ret ∈ zwd) ∧ (y.cls = C ∧ y.cls ≠ "java/lang/invoke/MethodHandle" ∧ y.cls ≠ "java/lang/invoke/VarHandle" ∧ (parseMethodDescriptor y.desc).map (fun d => d.parameters.length) = some np) ∧ maxL ≤ 20
def ZMS (oc idx : Nat) (y : MethodName) (By : ByteArray) (maxL : Nat) (ret : Option FieldType) (np : Nat) : Prop := (Cond.methodLink (zcn oc) idx y ∈ zwd ∧ Cond.static y ∈ zwd ∧ Cond.initialized y.cls ∈ zwd ∧ Cond.code y By maxL ret ∈ zwd) ∧ (y.cls ≠ "java/lang/invoke/MethodHandle" ∧ y.cls ≠ "java/lang/invoke/VarHandle" ∧ (parseMethodDescriptor y.desc).map (fun d => d.parameters.length) = some np) ∧ maxL ≤ 20
theorem zwd_good {w : Cond} (h : w ∈ zwd) : w ∈ zwd ∧ ((w.onTables && w.keeps) = true ∨ ∃ ty, w = .arrayClass ty) := ⟨h, good_of_word (List.mem_filter.mp h).2⟩
theorem zgoodV {oc idx : Nat} {C : String} {y : MethodName} {By : ByteArray} {maxL : Nat} {ret : Option FieldType} {np : Nat} (h : ZMV oc idx C y By maxL ret np) : GoodIn zwd (wsV (zcn oc) idx C y (.code y By maxL ret :: zwd)) := by
  intro w hw
  apply zwd_good
  obtain ⟨⟨g1, g2, g3, g4, g5⟩, -⟩ := h
  unfold wsV at hw
  rcases List.mem_append.mp hw with hw | hw
  · simp only [List.mem_cons, List.not_mem_nil, or_false] at hw
    rcases hw with rfl | rfl | rfl | rfl <;> assumption
  · rcases List.mem_cons.mp hw with rfl | hw <;> assumption
theorem zgoodS {oc idx : Nat} {y : MethodName} {By : ByteArray} {maxL : Nat} {ret : Option FieldType} {np : Nat} (h : ZMS oc idx y By maxL ret np) : GoodIn zwd (va_wsS (zcn oc) idx y (.code y By maxL ret :: zwd)) := by
  intro w hw
  apply zwd_good
  obtain ⟨⟨g1, g2, g4, g5⟩, -⟩ := h
  unfold va_wsS at hw
  rcases List.mem_append.mp hw with hw | hw
  · simp only [List.mem_cons, List.not_mem_nil, or_false] at hw
    rcases hw with rfl | rfl | rfl <;> assumption
  · rcases List.mem_cons.mp hw with rfl | hw <;> assumption
theorem zblind {av : List Value} {D : va_G} {cy ad : Nat → Nat} {w : ZW} {sz : Nat} : FrameBlind (va_Pc av (ZPre D cy ad w sz)) := by
  intro a U g mk q
  obtain ⟨q0, q1, qP, qK, qI, qS⟩ := q
  exact ⟨q0, q1, qP, va_K.moved (u := U) (U := U.calling g mk a) (Vm.Alike.refl U.vm) qK, qI, ⟨zst.moved (u := U) (U := U.calling g mk a) (Vm.Alike.refl U.vm) qS.1, zst.moved (u := U) (U := U.calling g mk a) (Vm.Alike.refl U.vm) qS.2.1, zst.moved (u := U) (U := U.calling g mk a) (Vm.Alike.refl U.vm) qS.2.2.1, znw.same (u := U) (U := U.calling g mk a) rfl qS.2.2.2⟩⟩
theorem zrs {ad : Nat → Nat} {rest : List Value} (h : (rest.map Value.category).sum ≤ 8) : ((rest.map (zv ad)).map fun v => v.category).sum ≤ 8 := by
  rw [List.map_map]
  have : (rest.map ((fun v => v.category) ∘ zv ad)) = rest.map Value.category := List.map_congr_left (fun v _ => zv_cat ad v)
  rw [this]
  exact h
section ZI
variable {D : va_G} {cy ad : Nat → Nat} {A : Nat → Prop} {n : Nat} {w wc : ZW} {is : List Nat} {s : State} {H : Heap} {locs : List Loc}
/-- the callee's start -/
theorem z_pre {av : List Value} (hI : ZInj ad n) (hA : ∀ i, i < n → A (ad i)) (hA2 : ∀ q, s.heap.size ≤ q → A q) (hK : va_K D vwCl (ztys cy) s) (hS : ZS ad A s s.heap) (h1 : w.length = n) (h2 : va_P D vwCl (zcw cy ad w) H) (h3 : va_S A s.heap H locs) (hsub : is.map (fun i => w[i]?) = wc.map (fun e => some (zre (zg is) e))) (hnd : va_nd is = true) (his : is.length ≤ 1000) :
    ∀ U : State, U.heap = H → s.WarmedH U.vm → va_Pc ((av.map (zv (zg is))).map (zv ad)) (ZPre D cy (fun k => ad (zg is k)) wc H.size) (av.map (zv (fun k => ad (zg is k)))).toArray U := by
  intro U hU hW
  have hg : ∀ k, k < wc.length → ∃ i, is[k]? = some i ∧ zg is k = i ∧ i < n := by
    intro k hk
    obtain ⟨i, h5, h6⟩ := zsub_at hsub (List.getElem?_eq_getElem hk)
    refine ⟨i, h5, by unfold zg; rw [List.getD_eq_getElem?_getD, h5]; rfl, ?_⟩
    rw [← h1]
    exact (List.getElem?_eq_some_iff.mp h6).1
  have hAin : ∀ q, va_A (zcw cy (fun k => ad (zg is k)) wc) H.size q → A q := by
    intro q hq
    rcases hq with ⟨k, e, hk⟩ | hq
    · have hl := (List.getElem?_eq_some_iff.mp hk).1
      rw [zcw_len] at hl
      rw [zcw_at] at hk
      obtain ⟨e', -, h6⟩ := Option.map_eq_some_iff.mp hk
      obtain ⟨i, -, h7, h8⟩ := hg k hl
      have h9 : ad (zg is k) = q := congrArg Prod.fst h6
      rw [← h9, h7]
      exact hA i h8
    · exact hA2 q (Nat.le_trans h3.1 hq)
  have hz : ∀ k, 1000 ≤ k → zg is k = k := by
    intro k hk
    unfold zg
    rw [List.getD_eq_getElem?_getD, List.getElem?_eq_none (by omega)]
    rfl
  refine ⟨?_, by rw [hU], ?_, va_K.moved hW.alike hK, ?_, ?_⟩
  · rw [List.map_map]
    congr 1
    apply List.map_congr_left
    intro v _
    exact (zv_zv ad (zg is) v).symm
  · rw [hU]
    intro k q hq
    rw [zcw_at] at hq
    obtain ⟨e, h5, h6⟩ := Option.map_eq_some_iff.mp hq
    obtain ⟨i, h7, h8⟩ := zsub_at hsub h5
    have h9 : zg is k = i := by unfold zg; rw [List.getD_eq_getElem?_getD, h7]; rfl
    have h10 := h2 i (ad i, zce cy ad (zre (zg is) e)) (zcw_get h8)
    rw [zce_zre, ← h9] at h10
    rw [← h6]
    exact h10
  · intro i j hi hj hij
    obtain ⟨a, h5, h6, h7⟩ := hg i hi
    obtain ⟨b, h8, h9, h10⟩ := hg j hj
    have h11 : ad (zg is i) = ad (zg is j) := hij
    rw [h6, h9] at h11
    have h12 := hI a b h7 h10 h11
    subst h12
    exact va_nd_inj is hnd i j a h5 h8
  · rw [hU]
    exact ((hS.go (U := U) h3.2.1 hAin hW).re (by show ad (zg is 1000) = _; rw [hz _ (by omega)]) (by show ad (zg is 1001) = _; rw [hz _ (by omega)]) (by show ad (zg is 1002) = _; rw [hz _ (by omega)]))
/-- the same, the callee's world being the caller's -/
theorem z_pre0 {av : List Value} (hI : ZInj ad n) (hA : ∀ i, i < n → A (ad i)) (hA2 : ∀ q, s.heap.size ≤ q → A q) (hK : va_K D vwCl (ztys cy) s) (hS : ZS ad A s s.heap) (h1 : w.length = n) (h2 : va_P D vwCl (zcw cy ad w) H) (h3 : va_S A s.heap H locs) :
    ∀ U : State, U.heap = H → s.WarmedH U.vm → va_Pc (av.map (zv ad)) (ZPre D cy ad w H.size) (av.map (zv ad)).toArray U := by
  intro U hU hW
  subst h1
  have hAin : ∀ q, va_A (zcw cy ad w) H.size q → A q := by
    intro q hq
    rcases hq with ⟨k, e, hk⟩ | hq
    · have hl := (List.getElem?_eq_some_iff.mp hk).1
      rw [zcw_len] at hl
      rw [zcw_at] at hk
      obtain ⟨e', -, h6⟩ := Option.map_eq_some_iff.mp hk
      have h9 : ad k = q := congrArg Prod.fst h6
      rw [← h9]
      exact hA k hl
    · exact hA2 q (Nat.le_trans h3.1 hq)
  refine ⟨rfl, by rw [hU], by rw [hU]; exact h2, va_K.moved hW.alike hK, hI, ?_⟩
  rw [hU]
  exact hS.go (U := U) h3.2.1 hAin hW
end ZI
abbrev zpush (r : Option Value) (st : List Value) : List Value := match r with
  | some v => v :: st
  | none => st
abbrev zpushg (g : Nat → Nat) (r : Option Value) (st : List Value) : List Value := match r with
  | some (.int x) => .int x :: st
  | some (.long x) => .long x :: st
  | some v => zv g v :: st
  | none => st
theorem zpush_eq (r : Option Value) (st : List Value) : r.toList ++ st = zpush r st := by cases r <;> rfl
theorem zpushg_eq (g : Nat → Nat) (r : Option Value) (st : List Value) : (r.map (zv g)).toList ++ st = zpushg g r st := by
  cases r with
  | none => rfl
  | some v => cases v <;> rfl
section ZJ
variable {X : ZX} {oc d pc : Nat} {B : ByteArray} {ls : List (Option Value)} {w : ZW}
theorem z_back0 {p : Program} {l : Launch} {e : Env} {R : Room} {s : State} {m : MethodId} {args : Array Value} {below : List Frame} {meth : Method} {c : Code} {D : va_G} {cy ad : Nat → Nat} {A : Nat → Prop} {n cells slots : Nat} {Q : State → Prop} {H : Heap} {locs : List Loc} {lsA : Array Slot} {st0 rest : List Value} {post : Option Value → ZW → Prop} {a : Array Value}
    (hA : ∀ i, i < n → A (ad i)) (hA2 : ∀ q, s.heap.size ≤ q → A q) (h1 : w.length = n) (h3 : va_S A s.heap H locs) (h4 : ZL ad c.maxLocals ls lsA)
    (hr : va_Run p l e R s m args below meth c H locs cells slots 0 0 (F0 m pc lsA st0) (rest.map (zv ad)) (ZQc D cy ad w.length (va_A (zcw cy ad w) H.size) post a) (va_A (zcw cy ad w) H.size))
    (kk : ∀ (r : Option Value) (w1 : ZW), post r w1 → w1.length = w.length → ZG (p, l, e, R, s, m, args, below, meth, c, D, cy, ad, A, n, cells, slots, Q) (pc + 3) ls (r.toList ++ rest) w1) : W p l e R s m args below meth c H locs cells slots Q (F0 m pc lsA st0) := by
  subst h1
  have hAin : ∀ q, va_A (zcw cy ad w) H.size q → A q := by
    intro q hq
    rcases hq with ⟨k, e, hk⟩ | hq
    · have hl := (List.getElem?_eq_some_iff.mp hk).1
      rw [zcw_len] at hl
      rw [zcw_at] at hk
      obtain ⟨e', -, h6⟩ := Option.map_eq_some_iff.mp hk
      have h9 : ad k = q := congrArg Prod.fst h6
      rw [← h9]
      exact hA k hl
    · exact hA2 q (Nat.le_trans h3.1 hq)
  intro T hT Xs
  obtain ⟨v, st₀, t, T', L, h0, X', hL, e1, e2, ⟨⟨r, w1, hv, hp, hlw, hb⟩, hz, hk⟩, stp⟩ := hr T hT Xs
  have hv' : v = r.map (zv ad) := Outcome.returned.inj hv
  subst hv'
  rw [h0] at hz hk
  have hS1 : va_S A s.heap T'.heap (locs ++ L) := by
    refine ⟨Nat.le_trans h3.1 (by rw [e1]; exact hz), fun q h5 h6 => ?_, fun q hq => ?_⟩
    · rw [e1, hk q (Nat.lt_of_lt_of_le h5 h3.1) (fun z => h6 (hAin q z))]
      exact h3.2.1 q h5 h6
    · rcases List.mem_append.mp hq with h | h
      · exact h3.2.2 q h
      · exact hAin _ (hL q h)
  obtain ⟨t2, a1, b1⟩ := kk r w1 hp hlw T'.heap (locs ++ L) lsA hlw (by rw [e1]; exact hb) hS1 h4 T' rfl X'
  refine ⟨t2, stp t2 ?_, b1⟩
  have hst : (r.toList ++ rest).map (zv ad) = (r.map (zv ad)).toList ++ rest.map (zv ad) := by
    rw [List.map_append]
    congr 1
    cases r <;> rfl
  rw [hst] at a1
  exact a1
theorem z_callV {idx ci k0 N : Nat} {T : u_T} {C : String} {y : MethodName} {By : ByteArray} {maxL dc np : Nat} {ret : Option FieldType} {As rest st fs : List Value} {wc : ZW} {post : Option Value → ZW → Prop}
    (hX : ZOK X oc B d) (hd : decode B pc = .ok (.invokevirtual idx, 3)) (hm : ZMV oc idx C y By maxL ret np) (is : List Nat) (hM : ∀ l, ZC l y By maxL ret dc (.ref k0 :: As) wc post) (hdc : dc + 1 ≤ d) (hrecv : wc[k0]? = some (.inr (ci, fs))) (hcl : vwCl[ci]? = some (C, T, N)) (hsub : is.map (fun i => w[i]?) = wc.map (fun e => some (zre (zg is) e))) (hnd : va_nd is = true) (his : is.length ≤ 1000) (hnp : As.length = np) (hst : st = (As.map (zv (zg is))).reverse ++ .ref (zg is k0) :: rest) (hrs : (rest.map Value.category).sum ≤ 8)
    (kk : ∀ (r : Option Value) (w1 : ZW), post r w1 → w1.length = wc.length → ZG X (pc + 3) ls (zpushg (zg is) r rest) (zput (zg is) is w w1)) : ZG X pc ls st w := by
  have kk := fun (r : Option Value) (w1 : ZW) h1 h2 => (zpushg_eq (zg is) r rest).symm ▸ kk r w1 h1 h2
  subst hst
  obtain ⟨p, l, e, R, s, m, args, below, meth, c, D, cy, ad, A, n, cells, slots, Q⟩ := X
  intro H locs lsA h1 h2 h3 h4
  obtain ⟨hx, hb, hown, hts, hK, hI, hA, hS, ⟨hfr, hlo⟩, ⟨hce, hsl⟩, hA2⟩ := hX
  have hci : ci < 100 := by
    have := (List.getElem?_eq_some_iff.mp hcl).1
    simp at this
    omega
  obtain ⟨i0, hi0, hi1⟩ := zsub_at hsub hrecv
  have hzg : zg is k0 = i0 := by unfold zg; rw [List.getD_eq_getElem?_getD, hi0]; rfl
  have hcw := cwV (R := R) (mc := 0) (ms := 0) (rm := zrm dc) np hts (zgoodV hm) rfl rfl rfl hm.2.1 ⟨by show dc + 1 ≤ _; omega, by have := hm.2.2; show 8 + (maxL + 11) + 40 * dc ≤ _; omega⟩
  refine z_back hI hA hA2 h1 h2 h3 h4 hsub hnd (post := post) (rest := rest) (va_runV (As := (As.map (zv (zg is))).map (zv ad)) (b := ad i0) (rest := rest.map (zv ad)) ⟨hx, hb, rfl, hown, hts⟩ (hM l D cy (fun k => ad (zg is k)) H.size) hcw ⟨zblind, ?_, ?_⟩ rfl (by rw [List.length_map, List.length_map]; exact hnp) h4.2.1 ?_ (lv_room (zrs hrs)) hd ⟨by omega, by omega⟩) kk
  · have he : (zcw cy ad w)[i0]? = some (ad i0, .inr (ci, (fs.map (zv (zg is))).map (zv ad))) := by rw [zcw_get hi1]; exact congrArg some (congrArg (Prod.mk _) (zce_obj hci))
    exact va_recv hK h2 hcl he
  · intro U hU hW
    have := z_pre (av := .ref k0 :: As) (wc := wc) hI hA hA2 hK hS h1 h2 h3 hsub hnd his U hU hW
    rw [show (Value.ref (ad i0) :: (As.map (zv (zg is))).map (zv ad)) = (Value.ref k0 :: As).map (zv (fun k => ad (zg is k))) by
      rw [List.map_cons, List.map_map]
      show Value.ref (ad i0) :: _ = Value.ref (ad (zg is k0)) :: _
      rw [hzg]
      congr 1
      apply List.map_congr_left
      intro v _
      exact zv_zv ad (zg is) v]
    exact ⟨rfl, this.2⟩
  · show ((As.map (zv (zg is))).reverse ++ .ref (zg is k0) :: rest).map (zv ad) = _
    rw [List.map_append, List.map_cons, List.map_reverse, hzg]
    rfl
theorem z_callV0 {idx ci k0 N : Nat} {T : u_T} {C : String} {y : MethodName} {By : ByteArray} {maxL dc np : Nat} {ret : Option FieldType} {As rest st fs : List Value} {post : Option Value → ZW → Prop}
    (hX : ZOK X oc B d) (hd : decode B pc = .ok (.invokevirtual idx, 3)) (hm : ZMV oc idx C y By maxL ret np) (hM : ∀ l, ZC l y By maxL ret dc (.ref k0 :: As) w post) (hdc : dc + 1 ≤ d) (hrecv : w[k0]? = some (.inr (ci, fs))) (hcl : vwCl[ci]? = some (C, T, N)) (hnp : As.length = np) (hst : st = As.reverse ++ .ref k0 :: rest) (hrs : (rest.map Value.category).sum ≤ 8)
    (kk : ∀ (r : Option Value) (w1 : ZW), post r w1 → w1.length = w.length → ZG X (pc + 3) ls (zpush r rest) w1) : ZG X pc ls st w := by
  have kk := fun (r : Option Value) (w1 : ZW) h1 h2 => (zpush_eq r rest).symm ▸ kk r w1 h1 h2
  subst hst
  obtain ⟨p, l, e, R, s, m, args, below, meth, c, D, cy, ad, A, n, cells, slots, Q⟩ := X
  intro H locs lsA h1 h2 h3 h4
  obtain ⟨hx, hb, hown, hts, hK, hI, hA, hS, ⟨hfr, hlo⟩, ⟨hce, hsl⟩, hA2⟩ := hX
  have hci : ci < 100 := by
    have := (List.getElem?_eq_some_iff.mp hcl).1
    simp at this
    omega
  have hcw := cwV (R := R) (mc := 0) (ms := 0) (rm := zrm dc) np hts (zgoodV hm) rfl rfl rfl hm.2.1 ⟨by show dc + 1 ≤ _; omega, by have := hm.2.2; show 8 + (maxL + 11) + 40 * dc ≤ _; omega⟩
  refine z_back0 hA hA2 h1 h3 h4 (post := post) (rest := rest) (va_runV (As := As.map (zv ad)) (b := ad k0) (rest := rest.map (zv ad)) ⟨hx, hb, rfl, hown, hts⟩ (hM l D cy ad H.size) hcw ⟨zblind, ?_, ?_⟩ rfl (by rw [List.length_map]; exact hnp) h4.2.1 ?_ (lv_room (zrs hrs)) hd ⟨by omega, by omega⟩) kk
  · have he : (zcw cy ad w)[k0]? = some (ad k0, .inr (ci, fs.map (zv ad))) := by rw [zcw_get hrecv, zce_obj hci]
    exact va_recv hK h2 hcl he
  · exact z_pre0 (av := .ref k0 :: As) hI hA hA2 hK hS h1 h2 h3
  · show (As.reverse ++ .ref k0 :: rest).map (zv ad) = _
    rw [List.map_append, List.map_cons, List.map_reverse]
    rfl
theorem z_callS0 {idx : Nat} {y : MethodName} {By : ByteArray} {maxL dc np : Nat} {ret : Option FieldType} {As rest st : List Value} {post : Option Value → ZW → Prop}
    (hX : ZOK X oc B d) (hd : decode B pc = .ok (.invokestatic idx, 3)) (hm : ZMS oc idx y By maxL ret np) (hM : ∀ l, ZC l y By maxL ret dc As w post) (hdc : dc + 1 ≤ d) (hnp : As.length = np) (hst : st = As.reverse ++ rest) (hrs : (rest.map Value.category).sum ≤ 8)
    (kk : ∀ (r : Option Value) (w1 : ZW), post r w1 → w1.length = w.length → ZG X (pc + 3) ls (zpush r rest) w1) : ZG X pc ls st w := by
  have kk := fun (r : Option Value) (w1 : ZW) h1 h2 => (zpush_eq r rest).symm ▸ kk r w1 h1 h2
  subst hst
  obtain ⟨p, l, e, R, s, m, args, below, meth, c, D, cy, ad, A, n, cells, slots, Q⟩ := X
  intro H locs lsA h1 h2 h3 h4
  obtain ⟨hx, hb, hown, hts, hK, hI, hA, hS, ⟨hfr, hlo⟩, ⟨hce, hsl⟩, hA2⟩ := hX
  have hcw := va_cwS (R := R) (mc := 0) (ms := 0) (rm := zrm dc) np hts (zgoodS hm) rfl rfl rfl hm.2.1 ⟨by show dc + 1 ≤ _; omega, by have := hm.2.2; show 8 + (maxL + 11) + 40 * dc ≤ _; omega⟩
  refine z_back0 hA hA2 h1 h3 h4 (post := post) (rest := rest) (va_runS (As := As.map (zv ad)) (rest := rest.map (zv ad)) ⟨hx, hb, rfl, hown, hts⟩ (hM l D cy ad H.size) hcw ⟨zblind, ?_⟩ rfl (by rw [List.length_map]; exact hnp) h4.2.1 ?_ (lv_room (zrs hrs)) hd ⟨by omega, by omega⟩) kk
  · exact z_pre0 hI hA hA2 hK hS h1 h2 h3
  · show (As.reverse ++ rest).map (zv ad) = _
    rw [List.map_append, List.map_reverse]
theorem z_callS {idx : Nat} {y : MethodName} {By : ByteArray} {maxL dc np : Nat} {ret : Option FieldType} {As rest st : List Value} {wc : ZW} {post : Option Value → ZW → Prop}
    (hX : ZOK X oc B d) (hd : decode B pc = .ok (.invokestatic idx, 3)) (hm : ZMS oc idx y By maxL ret np) (is : List Nat) (hM : ∀ l, ZC l y By maxL ret dc As wc post) (hdc : dc + 1 ≤ d) (hsub : is.map (fun i => w[i]?) = wc.map (fun e => some (zre (zg is) e))) (hnd : va_nd is = true) (his : is.length ≤ 1000) (hnp : As.length = np) (hst : st = (As.map (zv (zg is))).reverse ++ rest) (hrs : (rest.map Value.category).sum ≤ 8)
    (kk : ∀ (r : Option Value) (w1 : ZW), post r w1 → w1.length = wc.length → ZG X (pc + 3) ls (zpushg (zg is) r rest) (zput (zg is) is w w1)) : ZG X pc ls st w := by
  have kk := fun (r : Option Value) (w1 : ZW) h1 h2 => (zpushg_eq (zg is) r rest).symm ▸ kk r w1 h1 h2
  subst hst
  obtain ⟨p, l, e, R, s, m, args, below, meth, c, D, cy, ad, A, n, cells, slots, Q⟩ := X
  intro H locs lsA h1 h2 h3 h4
  obtain ⟨hx, hb, hown, hts, hK, hI, hA, hS, ⟨hfr, hlo⟩, ⟨hce, hsl⟩, hA2⟩ := hX
  have hcw := va_cwS (R := R) (mc := 0) (ms := 0) (rm := zrm dc) np hts (zgoodS hm) rfl rfl rfl hm.2.1 ⟨by show dc + 1 ≤ _; omega, by have := hm.2.2; show 8 + (maxL + 11) + 40 * dc ≤ _; omega⟩
  refine z_back hI hA hA2 h1 h2 h3 h4 hsub hnd (post := post) (rest := rest) (va_runS (As := (As.map (zv (zg is))).map (zv ad)) (rest := rest.map (zv ad)) ⟨hx, hb, rfl, hown, hts⟩ (hM l D cy (fun k => ad (zg is k)) H.size) hcw ⟨zblind, ?_⟩ rfl (by rw [List.length_map, List.length_map]; exact hnp) h4.2.1 ?_ (lv_room (zrs hrs)) hd ⟨by omega, by omega⟩) kk
  · intro U hU hW
    have := z_pre (av := As) (wc := wc) hI hA hA2 hK hS h1 h2 h3 hsub hnd his U hU hW
    rw [show (As.map (zv (zg is))).map (zv ad) = As.map (zv (fun k => ad (zg is k))) by
      rw [List.map_map]
      apply List.map_congr_left
      intro v _
      exact zv_zv ad (zg is) v]
    exact ⟨rfl, this.2⟩
  · show ((As.map (zv (zg is))).reverse ++ rest).map (zv ad) = _
    rw [List.map_append, List.map_reverse]
theorem z_norm {st st' : List Value} {ls' : List (Option Value)} {w' : ZW} (hl : ls = ls') (hs : st = st') (hw : w = w') (k : ZG X pc ls' st' w') : ZG X pc ls st w := by
  subst hl
  subst hs
  subst hw
  exact k
theorem z_dup {v : Value} {st : List Value} (hX : ZOK X oc B d) (hd : decode B pc = .ok (.dup, 1)) (hv : v.category = 1) (k : ZG X (pc + 1) ls (v :: v :: st) w) : ZG X pc ls (v :: st) w := by
  obtain ⟨p, l, e, R, s, m, args, below, meth, c, D, cy, ad, A, n, cells, slots, Q⟩ := X
  intro H locs lsA h1 h2 h3 h4
  exact lv_dup hX.ex hX.by hd (by rw [zv_cat]; exact hv) (k H locs lsA h1 h2 h3 h4)
theorem z_dup2_2 {v : Value} {st : List Value} (hX : ZOK X oc B d) (hd : decode B pc = .ok (.dup2, 1)) (hv : v.category = 2) (k : ZG X (pc + 1) ls (v :: v :: st) w) : ZG X pc ls (v :: st) w := by
  obtain ⟨p, l, e, R, s, m, args, below, meth, c, D, cy, ad, A, n, cells, slots, Q⟩ := X
  intro H locs lsA h1 h2 h3 h4
  exact lv_dup2_2 hX.ex hX.by hd (by rw [zv_cat]; exact hv) (k H locs lsA h1 h2 h3 h4)
theorem z_dup2_11 {v u : Value} {st : List Value} (hX : ZOK X oc B d) (hd : decode B pc = .ok (.dup2, 1)) (hv : v.category = 1) (hu : u.category = 1) (k : ZG X (pc + 1) ls (v :: u :: v :: u :: st) w) : ZG X pc ls (v :: u :: st) w := by
  obtain ⟨p, l, e, R, s, m, args, below, meth, c, D, cy, ad, A, n, cells, slots, Q⟩ := X
  intro H locs lsA h1 h2 h3 h4
  exact lv_dup2_11 hX.ex hX.by hd (by rw [zv_cat]; exact hv) (by rw [zv_cat]; exact hu) (k H locs lsA h1 h2 h3 h4)
end ZJ
