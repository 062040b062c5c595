/-! ===== statics, returns, contracts, calls ===== -/
theorem zst.kept {nm : String} {xs : List Nat} {k : Nat} {ad : Nat → Nat} {A : Nat → Prop} {U : State} {H H1 : Heap} (h : zst nm xs k ad A U H) (hq : ∀ a : Nat, a < H.size → ¬ A a → H1[a]? = H[a]?) : zst nm xs k ad A U H1 := ⟨h.1.kept hq, h.2.kept hq⟩
theorem zst.narrow {nm : String} {xs : List Nat} {k : Nat} {ad : Nat → Nat} {A A' : Nat → Prop} {U : State} {H : Heap} (h : zst nm xs k ad A U H) (hq : ∀ q, A' q → A q) : zst nm xs k ad A' U H := ⟨h.1.narrow hq, h.2.narrow hq⟩
theorem zst.moved {nm : String} {xs : List Nat} {k : Nat} {ad : Nat → Nat} {A : Nat → Prop} {u U : State} {H : Heap} (hvm : u.vm.Alike U.vm) (h : zst nm xs k ad A u H) : zst nm xs k ad A U H := ⟨h.1.moved hvm, h.2.moved hvm⟩
theorem znw.warm {s U : State} (hW : s.WarmedH U.vm) (h : znw s) : znw U := ⟨h.1.warmF hW, h.2.1.warmF hW, h.2.2.1.warmF hW, h.2.2.2.1.warmF hW, h.2.2.2.2.warmF hW⟩
theorem znw.same {u U : State} (hv : u.vm = U.vm) (h : znw u) : znw U := ⟨h.1.same rfl hv, h.2.1.same rfl hv, h.2.2.1.same rfl hv, h.2.2.2.1.same rfl hv, h.2.2.2.2.same rfl hv⟩
theorem ZS.go {ad : Nat → Nat} {A A' : Nat → Prop} {s U : State} {H H1 : Heap} (h : ZS ad A s H) (hq : ∀ a : Nat, a < H.size → ¬ A a → H1[a]? = H[a]?) (hA : ∀ q, A' q → A q) (hW : s.WarmedH U.vm) : ZS ad A' U H1 :=
  ⟨((h.1.kept hq).narrow hA).moved hW.alike, ((h.2.1.kept hq).narrow hA).moved hW.alike, ((h.2.2.1.kept hq).narrow hA).moved hW.alike, h.2.2.2.warm hW⟩
theorem ZS.re {ad ad' : Nat → Nat} {A : Nat → Prop} {s : State} {H : Heap} (h : ZS ad A s H) (e0 : ad' 1000 = ad 1000) (e1 : ad' 1001 = ad 1001) (e2 : ad' 1002 = ad 1002) : ZS ad' A s H := by
  unfold ZS zst at *
  rw [e0, e1, e2]
  exact h
section ZT
variable {X : ZX} {oc d pc : Nat} {B : ByteArray} {ls : List (Option Value)} {st : List Value} {w : ZW}
theorem z_aaldA {q j r : Nat} {fs : List Value} (hX : ZOK X oc B d) (hd : decode B pc = .ok (.aaload, 1)) (hw : w[q]? = some (.inr (103, fs))) (hj : fs[j]? = some (.ref r)) (hn : fs.length < 2147483648) (kk : ZG X (pc + 1) ls (.ref r :: st) w) : ZG X pc ls (.int (nI j) :: .ref q :: st) w := by
  obtain ⟨p, l, e, R, s, m, args, below, meth, c, D, cy, ad, A, n, cells, slots, Q⟩ := X
  intro H locs lsA h1 h2 h3 h4
  obtain ⟨hx, hb, hown, hts, hK, -⟩ := hX
  have hlt : j < fs.length := (List.getElem?_eq_some_iff.mp hj).1
  have hv : va_rf ((fs[j]?).bind (zr ad)) = .ref (ad r) := by rw [hj]; rfl
  have ha : (zcw cy ad w)[q]? = some (ad q, .inl (cy 6, fs.length, .inr (.inr (.inr (.inr (fun j => (fs[j]?).bind (zr ad))))))) := (zcw_get hw).trans (congrArg some (congrArg (Prod.mk (ad q)) (zce_row (by omega))))
  have hin : vp_in (nI j) fs.length := vp_in_nI hlt hn
  exact W.aald (v := .ref (ad r)) (ty := .array .long) hx hb (h2 q _ ha) ((hK.2 6 _ rfl).1 fs.length (fun j => va_rf ((fs[j]?).bind (zr ad)))) rfl (fun q => by cases q) (by show ¬ (nI j < 0 ∨ (arrV _ _ _).slots.size ≤ _); rw [arrV_size]; exact hin) (by show (arrV _ _ _).slots[_]? = _; rw [nI_clamp (by omega), arrV_read _ _ hlt, hv]) rfl rfl hd (kk H locs lsA h1 h2 h3 h4)
theorem z_stat {nm : String} {xs : List Nat} {k idx : Nat} (hX : ZOK X oc B d) (hd : decode B pc = .ok (.getstatic idx, 3)) (hk : ∀ (ad : Nat → Nat) (A : Nat → Prop) (U : State) (H : Heap), ZS ad A U H → zst nm xs k ad A U H ∧ va_Nw (.fieldLinkNest (zcn oc) idx "WindBoxes" nm "[I" "WindBoxes") U) (kk : ZG X (pc + 3) ls (.ref k :: st) w) : ZG X pc ls st w := by
  obtain ⟨p, l, e, R, s, m, args, below, meth, c, D, cy, ad, A, n, cells, slots, Q⟩ := X
  intro H locs lsA h1 h2 h3 h4
  obtain ⟨hx, hb, hown, hts, hK, hI, hA, hS, -⟩ := hX
  obtain ⟨⟨hz, -⟩, hn⟩ := hk ad A s s.heap hS
  exact va_getsN hx hb hz h3 hown (va_Nw.use rfl hn) (fun _ h => h) hd (kk H locs lsA h1 h2 h3 h4)
theorem z_stld {nm : String} {xs : List Nat} {k j : Nat} (hX : ZOK X oc B d) (hd : decode B pc = .ok (.iaload, 1)) (hk : ∀ (ad : Nat → Nat) (A : Nat → Prop) (U : State) (H : Heap), ZS ad A U H → zst nm xs k ad A U H) (hj : j < xs.length) (hn : xs.length < 2147483648) (kk : ZG X (pc + 1) ls (.int (nI (xs.getD j 0)) :: st) w) : ZG X pc ls (.int (nI j) :: .ref k :: st) w := by
  obtain ⟨p, l, e, R, s, m, args, below, meth, c, D, cy, ad, A, n, cells, slots, Q⟩ := X
  intro H locs lsA h1 h2 h3 h4
  obtain ⟨hx, hb, hown, hts, hK, hI, hA, hS, -⟩ := hX
  obtain ⟨-, hT⟩ := hk ad A s s.heap hS
  exact va_ti hx hb hT h3 (vp_in_nI hj hn) (v := .int (nI (xs.getD j 0))) (by rw [nI_clamp (by omega)]) hd (kk H locs lsA h1 h2 h3 h4)
end ZT
/-! returns -/
def ZQc (D : va_G) (cy ad : Nat → Nat) (n : Nat) (A : Nat → Prop) (post : Option Value → ZW → Prop) : Array Value → State → Outcome → State → Prop := fun _ st oc t => (∃ (r : Option Value) (w : ZW), oc = .returned (r.map (zv ad)) ∧ post r w ∧ w.length = n ∧ va_P D vwCl (zcw cy ad w) t.heap) ∧ va_F A st t
def ZRet (X : ZX) (ret : Option FieldType) (post : Option Value → ZW → Prop) : Prop := match X with
  | (p, l, e, R, s, m, args, below, meth, c, D, cy, ad, A, n, cells, slots, Q) => meth.sig.returnType = ret ∧ meth.locks = false ∧ Q = MQ below (ZQc D cy ad n A post) args s cells slots A
section ZU
variable {X : ZX} {oc d pc : Nat} {B : ByteArray} {ls : List (Option Value)} {st : List Value} {w : ZW} {post : Option Value → ZW → Prop}
theorem z_iret {x : Int32} (hX : ZOK X oc B d) (hR : ZRet X (some .int) post) (hd : decode B pc = .ok (.ireturn, 1)) (hp : post (some (.int x)) w) : ZG X pc ls [.int x] w := by
  obtain ⟨p, l, e, R, s, m, args, below, meth, c, D, cy, ad, A, n, cells, slots, Q⟩ := X
  intro H locs lsA h1 h2 h3 h4
  obtain ⟨hr, hlk, hQ⟩ := hR
  subst hQ
  exact W.iret hX.ex hX.by hr (fun t ht _ => ⟨⟨some (.int x), w, rfl, hp, h1, by rw [ht]; exact h2⟩, h3.F ht⟩) h3.2.2 hd hlk
theorem z_lret {x : Int64} (hX : ZOK X oc B d) (hR : ZRet X (some .long) post) (hd : decode B pc = .ok (.lreturn, 1)) (hp : post (some (.long x)) w) : ZG X pc ls [.long x] w := by
  obtain ⟨p, l, e, R, s, m, args, below, meth, c, D, cy, ad, A, n, cells, slots, Q⟩ := X
  intro H locs lsA h1 h2 h3 h4
  obtain ⟨hr, hlk, hQ⟩ := hR
  subst hQ
  exact W.lret hX.ex hX.by hr (fun t ht _ => ⟨⟨some (.long x), w, rfl, hp, h1, by rw [ht]; exact h2⟩, h3.F ht⟩) h3.2.2 hd hlk
theorem z_zret {x : Int32} (hX : ZOK X oc B d) (hR : ZRet X (some .boolean) post) (hd : decode B pc = .ok (.ireturn, 1)) (hx01 : x = 0 ∨ x = 1) (hp : post (some (.int x)) w) : ZG X pc ls [.int x] w := by
  obtain ⟨p, l, e, R, s, m, args, below, meth, c, D, cy, ad, A, n, cells, slots, Q⟩ := X
  intro H locs lsA h1 h2 h3 h4
  obtain ⟨hr, hlk, hQ⟩ := hR
  subst hQ
  exact W.zret hX.ex hX.by hr (by rcases hx01 with h | h <;> subst h <;> rfl) (fun t ht _ => ⟨⟨some (.int x), w, rfl, hp, h1, by rw [ht]; exact h2⟩, h3.F ht⟩) h3.2.2 hd hlk
theorem z_vret (hX : ZOK X oc B d) (hR : ZRet X none post) (hd : decode B pc = .ok (.return_, 1)) (hp : post none w) : ZG X pc ls [] w := by
  obtain ⟨p, l, e, R, s, m, args, below, meth, c, D, cy, ad, A, n, cells, slots, Q⟩ := X
  intro H locs lsA h1 h2 h3 h4
  obtain ⟨hr, hlk, hQ⟩ := hR
  subst hQ
  exact W.vret hX.ex hX.by hr (fun t ht _ => ⟨⟨none, w, rfl, hp, h1, by rw [ht]; exact h2⟩, h3.F ht⟩) h3.2.2 hd hlk
end ZU
/-! a method's contract over a world of places -/
def zrm (d : Nat) : Room := { frames := d, cells := 0, slots := 0, locals := 40 * d }
def ZPre (D : va_G) (cy ad : Nat → Nat) (w : ZW) (sz : Nat) (U : State) : Prop := U.heap.size = sz ∧ va_P D vwCl (zcw cy ad w) U.heap ∧ va_K D vwCl (ztys cy) U ∧ ZInj ad w.length ∧ ZS ad (va_A (zcw cy ad w) sz) U U.heap
def ZC (l : Launch) (y : MethodName) (B : ByteArray) (maxL : Nat) (ret : Option FieldType) (d : Nat) (av : List Value) (w : ZW) (post : Option Value → ZW → Prop) : Prop := ∀ (D : va_G) (cy ad : Nat → Nat) (sz : Nat), Met l y (.code y B maxL ret :: zwd) (zrm d) (va_Pc (av.map (zv ad)) (ZPre D cy ad w sz)) (ZQc D cy ad w.length (va_A (zcw cy ad w) sz) post) 0 0 (va_A (zcw cy ad w) sz)
theorem zA_in {cy ad : Nat → Nat} {w : ZW} {sz i : Nat} (h : i < w.length) : va_A (zcw cy ad w) sz (ad i) := by
  obtain ⟨e, he⟩ : ∃ e, w[i]? = some e := ⟨w[i], List.getElem?_eq_getElem h⟩
  exact va_A.in (zcw_get (cy := cy) (ad := ad) he)
theorem zc_intro {l : Launch} {y : MethodName} {B : ByteArray} {maxL : Nat} {ret : Option FieldType} {d oc : Nat} {av : List Value} {w : ZW} {post : Option Value → ZW → Prop} (hy : plainName y.cls = true) (hoc : y.cls = zcn oc) (hav : (zen av).length ≤ maxL) (body : ∀ X : ZX, ZOK X oc B d → ZRet X ret post → ZG X 0 (zent maxL av) [] w) : ZC l y B maxL ret d av w post := by
  intro D cy ad sz
  refine Met.ofW (cc := B) (maxL := maxL) (ret := ret) hy rfl ?_
  intro p e s m args below meth c s₁ B0 hml hv
  obtain ⟨rfl, hsz, hP, hK, hI, hS⟩ := hv
  have hts := atoms_spec (ws := .code y B maxL ret :: zwd) B0.pre
  have hown : s.vm.findClass (zcn oc) = some m.cls := by rw [← hoc]; exact findClass_of_methodNamed B0.named
  subst hsz
  have hb := body (p, l, e, (headSpec (.code y B maxL ret :: zwd) (zrm d)).room, s, m, (av.map (zv ad)).toArray, below, meth, c, D, cy, ad, va_A (zcw cy ad w) s.heap.size, w.length, 0, 0, MQ below (ZQc D cy ad w.length (va_A (zcw cy ad w) s.heap.size) post) (av.map (zv ad)).toArray s 0 0 (va_A (zcw cy ad w) s.heap.size))
    ⟨B0.exec, B0.bytes, hown, fun w hw => hts w (List.mem_cons_of_mem _ hw), hK, hI, fun i hi => zA_in hi, hS, ⟨Nat.le_refl _, Nat.le_refl _⟩, ⟨Nat.zero_le _, Nat.zero_le _⟩, fun q h => Or.inr h⟩ ⟨B0.returns, B0.notSynchronized, rfl⟩
  rw [lg_entry_eq]
  exact hb s.heap [] _ rfl hP va_S.rf (by rw [hml]; exact zent_ok ad av maxL hav)
/-! a callee's world is a part of the caller's: its place k is the caller's place (is)[k] -/
def zg (is : List Nat) (k : Nat) : Nat := is.getD k k
def zre (g : Nat → Nat) (e : ZE) : ZE := match e with
  | .inl a => .inl a
  | .inr (ci, fs) => .inr (ci, fs.map (zv g))
def zput (g : Nat → Nat) : List Nat → ZW → ZW → ZW
  | i :: is, w, e :: w1 => zput g is (w.set i (zre g e)) w1
  | _, w, _ => w
theorem zce_zre (cy ad g : Nat → Nat) (e : ZE) : zce cy ad (zre g e) = zce cy (fun k => ad (g k)) e := by
  match e with
  | .inl (t, n, .inl f) => rfl
  | .inl (t, n, .inr f) => rfl
  | .inr (ci, fs) =>
    by_cases h : ci < 100
    · rw [zce_obj h]
      show zce cy ad (.inr (ci, fs.map (zv g))) = _
      rw [zce_obj h, List.map_map]
      congr 2
      apply List.map_congr_left
      intro v _
      exact zv_zv ad g v
    · rw [zce_row h]
      show zce cy ad (.inr (ci, fs.map (zv g))) = _
      rw [zce_row h, List.length_map]
      congr 7
      funext j
      rw [List.getElem?_map]
      cases fs[j]? with
      | none => rfl
      | some v => exact zr_zv ad g v
theorem zput_len (g : Nat → Nat) : ∀ (is : List Nat) (w w1 : ZW), (zput g is w w1).length = w.length
  | [], w, w1 => by cases w1 <;> rfl
  | i :: is, w, [] => rfl
  | i :: is, w, e :: w1 => by
    show (zput g is (w.set i (zre g e)) w1).length = _
    rw [zput_len g is, List.length_set]
theorem zput_out (g : Nat → Nat) : ∀ (is : List Nat) (w w1 : ZW) (k : Nat), k ∉ is → (zput g is w w1)[k]? = w[k]?
  | [], w, w1, k, _ => by cases w1 <;> rfl
  | i :: is, w, [], k, _ => rfl
  | i :: is, w, e :: w1, k, h => by
    show (zput g is (w.set i (zre g e)) w1)[k]? = _
    rw [zput_out g is _ _ k (fun q => h (List.mem_cons_of_mem _ q)), List.getElem?_set_ne (fun q => h (by rw [q]; exact List.mem_cons_self))]
theorem zput_in (g : Nat → Nat) : ∀ (is : List Nat) (w w1 : ZW) (i k : Nat) (e : ZE), va_nd is = true → is[i]? = some k → k < w.length → w1[i]? = some e → (zput g is w w1)[k]? = some (zre g e)
  | [], w, w1, i, k, e, _, h, _, _ => by simp at h
  | b :: is, w, [], i, k, e, _, _, _, h => by simp at h
  | b :: is, w, e0 :: w1, i, k, e, hn, h, hk, he => by
    simp only [va_nd, Bool.and_eq_true, decide_eq_true_eq] at hn
    show (zput g is (w.set b (zre g e0)) w1)[k]? = _
    cases i with
    | zero =>
      cases h
      cases he
      rw [zput_out g is _ _ _ hn.1, List.getElem?_set_self hk]
    | succ i => exact zput_in g is _ w1 i k e hn.2 h (by rw [List.length_set]; exact hk) he
theorem zsub_at {w wc : ZW} {is : List Nat} {g : Nat → Nat} (h : is.map (fun i => w[i]?) = wc.map (fun e => some (zre g e))) {k : Nat} {e : ZE} (hk : wc[k]? = some e) : ∃ i, is[k]? = some i ∧ w[i]? = some (zre g e) := by
  have h1 : (is.map (fun i => w[i]?))[k]? = some (some (zre g e)) := by rw [h, List.getElem?_map, hk]; rfl
  rw [List.getElem?_map] at h1
  cases hi : is[k]? with
  | none => rw [hi] at h1; cases h1
  | some i => rw [hi] at h1; exact ⟨i, rfl, Option.some.inj h1⟩
theorem zsub_len {w wc : ZW} {is : List Nat} {g : Nat → Nat} (h : is.map (fun i => w[i]?) = wc.map (fun e => some (zre g e))) : is.length = wc.length := by
  have := congrArg List.length h
  rw [List.length_map, List.length_map] at this
  exact this
section ZV
variable {X : ZX} {oc d pc : Nat} {B : ByteArray} {ls : List (Option Value)} {w : ZW}
/-- behind a call's run: the callee's new cells stand in the caller's world -/
theorem z_back {p : Program} {l : Launch} {e : Env} {R : Room} {s : State} {m : MethodId} {args : Array Value} {below : List Frame} {meth : Method} {c : Code} {D : va_G} {cy ad : Nat → Nat} {A : Nat → Prop} {n cells slots : Nat} {Q : State → Prop} {H : Heap} {locs : List Loc} {lsA : Array Slot} {st0 rest : List Value} {is : List Nat} {wc : ZW} {post : Option Value → ZW → Prop} {a : Array Value}
    (hI : ZInj ad n) (hA : ∀ i, i < n → A (ad i)) (hA2 : ∀ q, s.heap.size ≤ q → A q) (h1 : w.length = n) (h2 : va_P D vwCl (zcw cy ad w) H) (h3 : va_S A s.heap H locs) (h4 : ZL ad c.maxLocals ls lsA) (hsub : is.map (fun i => w[i]?) = wc.map (fun e => some (zre (zg is) e))) (hnd : va_nd is = true)
    (hr : va_Run p l e R s m args below meth c H locs cells slots 0 0 (F0 m pc lsA st0) (rest.map (zv ad)) (ZQc D cy (fun k => ad (zg is k)) wc.length (va_A (zcw cy (fun k => ad (zg is k)) wc) H.size) post a) (va_A (zcw cy (fun k => ad (zg is k)) wc) H.size))
    (kk : ∀ (r : Option Value) (w1 : ZW), post r w1 → w1.length = wc.length → ZG (p, l, e, R, s, m, args, below, meth, c, D, cy, ad, A, n, cells, slots, Q) (pc + 3) ls ((r.map (zv (zg is))).toList ++ rest) (zput (zg is) is w w1)) : W p l e R s m args below meth c H locs cells slots Q (F0 m pc lsA st0) := by
  have hlen := zsub_len hsub
  have hg : ∀ k, k < wc.length → ∃ i, is[k]? = some i ∧ zg is k = i ∧ i < n := by
    intro k hk
    obtain ⟨i, h5, h6⟩ := zsub_at hsub (List.getElem?_eq_getElem hk)
    refine ⟨i, h5, by unfold zg; rw [List.getD_eq_getElem?_getD, h5]; rfl, ?_⟩
    rw [← h1]
    exact (List.getElem?_eq_some_iff.mp h6).1
  have hAin : ∀ q, va_A (zcw cy (fun k => ad (zg is k)) wc) H.size q → A q := by
    intro q hq
    rcases hq with ⟨k, e, hk⟩ | hq
    · have hl := (List.getElem?_eq_some_iff.mp hk).1
      rw [zcw_len] at hl
      rw [zcw_at] at hk
      obtain ⟨e', -, h6⟩ := Option.map_eq_some_iff.mp hk
      obtain ⟨i, -, h7, h8⟩ := hg k hl
      have h9 : ad (zg is k) = q := congrArg Prod.fst h6
      rw [← h9, h7]
      exact hA i h8
    · exact hA2 q (Nat.le_trans h3.1 hq)
  intro T hT Xs
  obtain ⟨v, st₀, t, T', L, h0, X', hL, e1, e2, ⟨⟨r, w1, hv, hp, hlw, hb⟩, hz, hk⟩, stp⟩ := hr T hT Xs
  have hv' : v = r.map (zv (fun k => ad (zg is k))) := Outcome.returned.inj hv
  subst hv'
  rw [h0] at hz hk
  have hP1 : va_P D vwCl (zcw cy ad (zput (zg is) is w w1)) T'.heap := by
    intro k q hq
    rw [zcw_at] at hq
    obtain ⟨e', h5, h6⟩ := Option.map_eq_some_iff.mp hq
    have hkn : k < w.length := by
      have := (List.getElem?_eq_some_iff.mp h5).1
      rw [zput_len] at this
      exact this
    rw [e1]
    by_cases hkm : k ∈ is
    · obtain ⟨i, hi⟩ := List.getElem?_of_mem hkm
      have hil : i < w1.length := by
        have := (List.getElem?_eq_some_iff.mp hi).1
        omega
      have h7 := zput_in (zg is) is w w1 i k w1[i] hnd hi hkn (List.getElem?_eq_getElem hil)
      rw [h5] at h7
      cases h7
      have h8 := hb i (ad (zg is i), zce cy (fun k => ad (zg is k)) w1[i]) (zcw_get (List.getElem?_eq_getElem hil))
      have h9 : zg is i = k := by unfold zg; rw [List.getD_eq_getElem?_getD, hi]; rfl
      rw [h9, ← zce_zre cy ad (zg is)] at h8
      rw [← h6]
      exact h8
    · rw [zput_out (zg is) is w w1 k hkm] at h5
      have h8 := h2 k (ad k, zce cy ad e') (zcw_get h5)
      rw [← h6]
      refine h8.kept (hk (ad k) h8.lt (fun hin => ?_))
      rcases hin with ⟨k2, e2, hk2⟩ | hin
      · have hl := (List.getElem?_eq_some_iff.mp hk2).1
        rw [zcw_len] at hl
        rw [zcw_at] at hk2
        obtain ⟨e3, -, h10⟩ := Option.map_eq_some_iff.mp hk2
        obtain ⟨i, h11, h12, h13⟩ := hg k2 hl
        have h14 : ad (zg is k2) = ad k := congrArg Prod.fst h10
        rw [h12] at h14
        have h15 := hI i k h13 (by omega) h14
        subst h15
        exact hkm (List.mem_of_getElem? h11)
      · have h16 : ad k < H.size := h8.lt
        omega
  have hS1 : va_S A s.heap T'.heap (locs ++ L) := by
    refine ⟨Nat.le_trans h3.1 (by rw [e1]; exact hz), fun q h5 h6 => ?_, fun q hq => ?_⟩
    · rw [e1, hk q (Nat.lt_of_lt_of_le h5 h3.1) (fun z => h6 (hAin q z))]
      exact h3.2.1 q h5 h6
    · rcases List.mem_append.mp hq with h | h
      · exact h3.2.2 q h
      · exact hAin _ (hL q h)
  obtain ⟨t2, a1, b1⟩ := kk r w1 hp hlw T'.heap (locs ++ L) lsA (by rw [zput_len]; exact h1) hP1 hS1 h4 T' rfl X'
  refine ⟨t2, stp t2 ?_, b1⟩
  have hst : (((r.map (zv (zg is))).toList ++ rest).map (zv ad)) = (r.map (zv (fun k => ad (zg is k)))).toList ++ rest.map (zv ad) := by
    rw [List.map_append]
    congr 1
    cases r with
    | none => rfl
    | some v => show [zv ad (zv (zg is) v)] = _; rw [zv_zv]; rfl
  rw [hst] at a1
  exact a1
end ZV
