/-! ===== constructors: contracts of methods that make cells ===== -/
def zrmN (d mc ms : Nat) : Room := { frames := d, cells := mc, slots := ms, locals := 40 * d }
def ZPreN (D : va_G) (cy ad : Nat → Nat) (w : ZW) (sz : Nat) (U : State) : Prop := ZPre D cy ad w sz U ∧ zni U
def ZQn (D : va_G) (cy ad : Nat → Nat) (n0 : Nat) (A : Nat → Prop) (wN : ZW) : Array Value → State → Outcome → State → Prop := fun _ st oc t => (oc = .returned none ∧ ∃ ad' : Nat → Nat, (∀ k, k < n0 ∨ 1000 ≤ k → ad' k = ad k) ∧ ZInj ad' wN.length ∧ (∀ i, i < wN.length → A (ad' i)) ∧ va_P D vwCl (zcw cy ad' wN) t.heap) ∧ va_F A st t
def ZCN (l : Launch) (y : MethodName) (B : ByteArray) (maxL d : Nat) (av : List Value) (w wN : ZW) (mc ms : Nat) : Prop := ∀ (D : va_G) (cy ad : Nat → Nat) (sz : Nat), Met l y (.code y B maxL none :: zwd) (zrmN d mc ms) (va_Pc (av.map (zv ad)) (ZPreN D cy ad w sz)) (ZQn D cy ad w.length (va_A (zcw cy ad w) sz) wN) mc ms (va_A (zcw cy ad w) sz)
theorem zblindN {av : List Value} {D : va_G} {cy ad : Nat → Nat} {w : ZW} {sz : Nat} : FrameBlind (va_Pc av (ZPreN D cy ad w sz)) := by
  intro a U g mk q
  obtain ⟨q0, q1, q2⟩ := q
  have h := zblind (av := av) (D := D) (cy := cy) (ad := ad) (w := w) (sz := sz) a U g mk ⟨q0, q1⟩
  exact ⟨h.1, h.2, zni.same (u := U) (U := U.calling g mk a) rfl q2⟩
def ZRetN (X0 : ZX) (wN : ZW) (mc ms : Nat) : Prop := match X0 with
  | (_, _, _, _, s, _, args, below, meth, _, D, cy, ad0, A, n0, _, _, Q) => meth.sig.returnType = none ∧ meth.locks = false ∧ Q = MQ below (ZQn D cy ad0 n0 A wN) args s mc ms A
theorem z_vretN {X0 X : ZX} {oc d pc n cells slots mc ms : Nat} {B : ByteArray} {ls : List (Option Value)} {w wN : ZW} (hX : ZOK X oc B d) (hk : ZKp X0 X n cells slots) (hR : ZRetN X0 wN mc ms) (hd : decode B pc = .ok (.return_, 1)) (hc : cells ≤ mc) (hs : slots ≤ ms) (hw : w = wN) : ZG X pc ls [] w := by
  subst hw
  obtain ⟨p0, l0, e0, R0, s0, m0, args0, below0, meth0, c0, D0, cy0, ad0, A0, n0, cells0, slots0, Q0⟩ := X0
  obtain ⟨ad1, e1, e2, e3⟩ := hk
  subst e1
  intro H locs lsA h1 h2 h3 h4
  obtain ⟨hr, hlk, hQ⟩ := hR
  subst hQ
  subst h1
  obtain ⟨hx, hb, hown, hts, hK, hI, hA, -⟩ := hX
  exact W.widen hc hs (W.vret hx hb hr (fun t ht _ => ⟨⟨rfl, ad1, e3, hI, hA, by rw [ht]; exact h2⟩, h3.F ht⟩) h3.2.2 hd hlk)
theorem zcn_intro {l : Launch} {y : MethodName} {B : ByteArray} {maxL d oc : Nat} {av : List Value} {w wN : ZW} {mc ms : Nat} (hy : plainName y.cls = true) (hoc : y.cls = zcn oc) (hin : y.name = "<init>") (hav : (zen av).length ≤ maxL) (body : ∀ X0 : ZX, ZOK X0 oc B d → ZKp X0 X0 w.length 0 0 → ZRm X0 mc ms → ZNI X0 → ZIn X0 → ZRetN X0 wN mc ms → ZG X0 0 (zent maxL av) [] w) : ZCN l y B maxL d av w wN mc ms := by
  intro D cy ad sz
  refine Met.ofW (cc := B) (maxL := maxL) (ret := none) hy rfl ?_
  intro p e s m args below meth c s₁ B0 hml hv
  obtain ⟨rfl, ⟨hsz, hP, hK, hI, hS⟩, hni⟩ := hv
  have hts := atoms_spec (ws := .code y B maxL none :: zwd) B0.pre
  have hown : s.vm.findClass (zcn oc) = some m.cls := by rw [← hoc]; exact findClass_of_methodNamed B0.named
  have hnm : meth.name = "<init>" := (name_of_methodNamed B0.named B0.method).1.trans hin
  subst hsz
  have hb := body (p, l, e, (headSpec (.code y B maxL none :: zwd) (zrmN d mc ms)).room, s, m, (av.map (zv ad)).toArray, below, meth, c, D, cy, ad, va_A (zcw cy ad w) s.heap.size, w.length, 0, 0, MQ below (ZQn D cy ad w.length (va_A (zcw cy ad w) s.heap.size) wN) (av.map (zv ad)).toArray s mc ms (va_A (zcw cy ad w) s.heap.size))
    ⟨B0.exec, B0.bytes, hown, fun w hw => hts w (List.mem_cons_of_mem _ hw), hK, hI, fun i hi => zA_in hi, hS, ⟨Nat.le_refl _, Nat.le_refl _⟩, ⟨Nat.zero_le _, Nat.zero_le _⟩, fun q h => Or.inr h⟩ ⟨ad, rfl, Nat.le_refl _, fun _ _ => rfl⟩ ⟨Nat.le_refl _, Nat.le_refl _⟩ hni hnm ⟨B0.returns, B0.notSynchronized, rfl⟩
  rw [lg_entry_eq]
  exact hb s.heap [] _ rfl hP va_S.rf (by rw [hml]; exact zent_ok ad av maxL hav)
/-! cells whose references are few, or none -/
def zlv2 (L : Nat) (v : Value) : Bool := match v with
  | .ref k => Nat.blt k L
  | _ => true
def zli (L : Nat) (e : ZE) : Bool := match e with
  | .inl _ => true
  | .inr (_, fs) => fs.all (zlv2 L)
theorem zce_congr {cy a1 a2 : Nat → Nat} {L : Nat} {e : ZE} (h : zli L e = true) (ha : ∀ k, k < L → a1 k = a2 k) : zce cy a1 e = zce cy a2 e := by
  have hv : ∀ v : Value, zlv2 L v = true → zv a1 v = zv a2 v := by
    intro v hz
    cases v with
    | ref k =>
      show Value.ref _ = Value.ref _
      rw [ha k (Nat.blt_eq.mp hz)]
    | _ => rfl
  have hr : ∀ v : Value, zlv2 L v = true → zr a1 v = zr a2 v := by
    intro v hz
    cases v with
    | ref k =>
      show some _ = some _
      rw [ha k (Nat.blt_eq.mp hz)]
    | _ => rfl
  match e, h with
  | .inl (t, k, .inl f), _ => rfl
  | .inl (t, k, .inr f), _ => rfl
  | .inr (ci, fs), h =>
    have hz := List.all_eq_true.mp h
    by_cases hc : ci < 100
    · rw [zce_obj hc, zce_obj hc]
      congr 2
      exact List.map_congr_left (fun v hm => hv v (hz v hm))
    · rw [zce_row hc, zce_row hc]
      congr 7
      funext j
      cases hj : fs[j]? with
      | none => rfl
      | some v => exact hr v (hz v (List.mem_of_getElem? hj))
theorem zre_no {g : Nat → Nat} {e : ZE} (h : zli 0 e = true) : zre g e = e := by
  match e, h with
  | .inl a, _ => rfl
  | .inr (ci, fs), h =>
    have hz := List.all_eq_true.mp h
    show (Sum.inr (ci, fs.map (zv g)) : ZE) = _
    congr 2
    refine (List.map_congr_left (fun v hm => ?_)).trans (List.map_id _)
    have h9 := hz v hm
    cases v with
    | ref k => exact absurd (Nat.blt_eq.mp h9) (Nat.not_lt_zero k)
    | _ => rfl
def zgN (p n k : Nat) : Nat := match k with
  | 0 => p
  | j + 1 => n + j
/-- a constructor's call, nest mate or not, by its run -/
theorem z_runN {X0 : ZX} {p : Program} {l : Launch} {e : Env} {R : Room} {s : State} {m : MethodId} {args : Array Value} {below : List Frame} {meth : Method} {c : Code} {D : va_G} {cy ad : Nat → Nat} {A : Nat → Prop} {n cells slots : Nat} {Q : State → Prop} {oc d pc : Nat} {B : ByteArray} {ls : List (Option Value)} {w : ZW} {H : Heap} {locs : List Loc} {lsA : Array Slot} {st0 rest : List Value} {a : Array Value} {p0 mc ms : Nat} {en e0 : ZE} {es0 : ZW}
    (hX : ZOK (p, l, e, R, s, m, args, below, meth, c, D, cy, ad, A, n, cells, slots, Q) oc B d) (hk : ZKp X0 (p, l, e, R, s, m, args, below, meth, c, D, cy, ad, A, n, cells, slots, Q) n cells slots) (hroom : cells + mc ≤ R.cells ∧ slots + ms ≤ R.slots) (h1 : w.length = n) (hm : n + es0.length ≤ 1000) (h2 : va_P D vwCl (zcw cy ad w) H) (h3 : va_S A s.heap H locs) (h4 : ZL ad c.maxLocals ls lsA) (hp : w[p0]? = some en) (hin : (e0 :: es0).all (zli (es0.length + 1)) = true) (hf : zfr n es0.length ls rest w = true)
    (hr : va_Run p l e R s m args below meth c H locs cells slots mc ms (F0 m pc lsA st0) (rest.map (zv ad)) (ZQn D cy (fun k => ad (zg [p0] k)) 1 (va_A (zcw cy (fun k => ad (zg [p0] k)) [en]) H.size) (e0 :: es0) a) (va_A (zcw cy (fun k => ad (zg [p0] k)) [en]) H.size))
    (kk : ∀ X', ZOK X' oc B d → ZKp X0 X' (n + es0.length) (cells + mc) (slots + ms) → ZG X' (pc + 3) ls rest (w.set p0 (zre (zgN p0 n) e0) ++ es0.map (zre (zgN p0 n)))) : W p l e R s m args below meth c H locs cells slots Q (F0 m pc lsA st0) := by
  have hX0 := hX
  obtain ⟨hx, hb, hown, hts, hK, hI, hA, hS, -, -, hA2⟩ := hX
  obtain ⟨f1, f2, f3⟩ := zfr_spec hf
  have hp0 : p0 < n := by rw [← h1]; exact (List.getElem?_eq_some_iff.mp hp).1
  have hAc : ∀ q, va_A (zcw cy (fun k => ad (zg [p0] k)) [en]) H.size q ↔ q = ad p0 ∨ H.size ≤ q := by
    intro q
    constructor
    · rintro (⟨k, e', hk'⟩ | hq)
      · cases k with
        | zero =>
          cases hk'
          exact Or.inl rfl
        | succ k => cases hk'
      · exact Or.inr hq
    · rintro (rfl | hq)
      · exact Or.inl ⟨0, _, rfl⟩
      · exact Or.inr hq
  have hAin : ∀ q, va_A (zcw cy (fun k => ad (zg [p0] k)) [en]) H.size q → A q := by
    intro q hq
    rcases (hAc q).mp hq with rfl | hq
    · exact hA p0 hp0
    · exact hA2 q (Nat.le_trans h3.1 hq)
  intro T hT Xs
  obtain ⟨v, st₀, t, T', L, h0, X', hL, e1, e2, ⟨⟨hv, ad', k1, k2, k3, k4⟩, hz, hkk⟩, stp⟩ := hr T hT Xs
  have hv' : v = none := Outcome.returned.inj hv
  subst hv'
  rw [h0] at hz hkk
  have hnew : ∀ i, 0 < i → i < es0.length + 1 → H.size ≤ ad' i := by
    intro i hi1 hi2
    rcases (hAc _).mp (k3 i hi2) with h | h
    · have h5 : ad' i = ad' 0 := by rw [h, k1 0 (Or.inl (by omega))]; rfl
      have h6 := k2 i 0 hi2 (Nat.succ_pos _) h5
      omega
    · exact h
  have hold : ∀ k ek, w[k]? = some ek → ad k < H.size := fun k ek hk' => (h2 k _ (zcw_get hk')).lt
  have hx0 : ∀ k, k < es0.length + 1 → zex ad n es0.length (fun i => ad' (i + 1)) (zgN p0 n k) = ad' k := by
    intro k hk'
    cases k with
    | zero =>
      show zex ad n es0.length (fun i => ad' (i + 1)) p0 = ad' 0
      rw [zex_out (by omega), k1 0 (Or.inl (by omega))]
      rfl
    | succ j =>
      show (if n ≤ n + j ∧ n + j < n + es0.length then ad' (n + j - n + 1) else ad (n + j)) = ad' (j + 1)
      rw [if_pos (by omega), show n + j - n + 1 = j + 1 by omega]
  have hcell : ∀ k ek, (e0 :: es0)[k]? = some ek → va_at D vwCl (ad' k, zce cy (zex ad n es0.length (fun i => ad' (i + 1))) (zre (zgN p0 n) ek)) T'.heap := by
    intro k ek hk'
    have h5 := k4 k _ (zcw_get hk')
    rw [zce_zre, zce_congr (a2 := ad') (List.all_eq_true.mp hin ek (List.mem_of_getElem? hk')) hx0, e1]
    exact h5
  have hlw : (w.set p0 (zre (zgN p0 n) e0)).length = n := by rw [List.length_set]; exact h1
  have hP1 : va_P D vwCl (zcw cy (zex ad n es0.length (fun i => ad' (i + 1))) (w.set p0 (zre (zgN p0 n) e0) ++ es0.map (zre (zgN p0 n)))) T'.heap := by
    intro k q hq
    rw [zcw_at] at hq
    obtain ⟨ek, h5, h6⟩ := Option.map_eq_some_iff.mp hq
    subst h6
    by_cases hkn : k < n
    · rw [List.getElem?_append_left (by rw [hlw]; exact hkn)] at h5
      by_cases hkp : p0 = k
      · subst hkp
        rw [List.getElem?_set_self (by rw [h1]; exact hp0)] at h5
        cases h5
        have h7 := hcell 0 e0 rfl
        rw [← hx0 0 (Nat.succ_pos _)] at h7
        exact h7
      · rw [List.getElem?_set_ne hkp] at h5
        have h7 := h2 k _ (zcw_get h5)
        have h8 := hold k ek h5
        rw [zex_out (by omega), zce_ex (List.all_eq_true.mp f3 ek (List.mem_of_getElem? h5)), e1]
        refine h7.kept (hkk _ h8 (fun z => ?_))
        rcases (hAc _).mp z with h | h
        · exact hkp (hI k p0 hkn hp0 h).symm
        · omega
    · rw [List.getElem?_append_right (by rw [hlw]; omega), hlw, List.getElem?_map] at h5
      obtain ⟨ek', h9, h10⟩ := Option.map_eq_some_iff.mp h5
      subst h10
      have h11 := (List.getElem?_eq_some_iff.mp h9).1
      have h12 := hcell (k - n + 1) ek' h9
      rw [← hx0 (k - n + 1) (by omega)] at h12
      rw [show zgN p0 n (k - n + 1) = k by show n + (k - n) = k; omega] at h12
      exact h12
  have hadlt : ∀ i, i < n → zex ad n es0.length (fun i => ad' (i + 1)) i = ad i := fun i hi => zex_out (by omega)
  have hadge : ∀ j, j < es0.length → zex ad n es0.length (fun i => ad' (i + 1)) (n + j) = ad' (j + 1) := fun j hj => hx0 (j + 1) (by omega)
  have hsm : ∀ i, i < n → ad i < H.size := fun i hi => by
    obtain ⟨ek, hek⟩ : ∃ ek, w[i]? = some ek := ⟨w[i]'(by rw [h1]; exact hi), List.getElem?_eq_getElem (by rw [h1]; exact hi)⟩
    exact hold i ek hek
  have hI1 : ZInj (zex ad n es0.length (fun i => ad' (i + 1))) (n + es0.length) := by
    intro i j hi hj hij
    by_cases hi2 : i < n
    · by_cases hj2 : j < n
      · rw [hadlt i hi2, hadlt j hj2] at hij
        exact hI i j hi2 hj2 hij
      · have e9 := hadge (j - n) (by omega)
        rw [show n + (j - n) = j by omega] at e9
        rw [hadlt i hi2, e9] at hij
        have := hsm i hi2
        have := hnew (j - n + 1) (by omega) (by omega)
        omega
    · have e8 := hadge (i - n) (by omega)
      rw [show n + (i - n) = i by omega] at e8
      by_cases hj2 : j < n
      · rw [hadlt j hj2, e8] at hij
        have := hsm j hj2
        have := hnew (i - n + 1) (by omega) (by omega)
        omega
      · have e9 := hadge (j - n) (by omega)
        rw [show n + (j - n) = j by omega] at e9
        rw [e8, e9] at hij
        have h13 : i - n + 1 = j - n + 1 := k2 (i - n + 1) (j - n + 1) (by show _ < es0.length + 1; omega) (by show _ < es0.length + 1; omega) hij
        omega
  have hA1 : ∀ i, i < n + es0.length → A (zex ad n es0.length (fun i => ad' (i + 1)) i) := by
    intro i hi
    by_cases hi2 : i < n
    · rw [hadlt i hi2]
      exact hA i hi2
    · have e8 := hadge (i - n) (by omega)
      rw [show n + (i - n) = i by omega] at e8
      rw [e8]
      exact hA2 _ (Nat.le_trans h3.1 (hnew (i - n + 1) (by omega) (by omega)))
  have hS1 : va_S A s.heap T'.heap (locs ++ L) := by
    refine ⟨Nat.le_trans h3.1 (by rw [e1]; exact hz), fun q h5 h6 => ?_, fun q hq => ?_⟩
    · rw [e1, hkk q (Nat.lt_of_lt_of_le h5 h3.1) (fun z => h6 (hAin q z))]
      exact h3.2.1 q h5 h6
    · rcases List.mem_append.mp hq with h | h
      · exact h3.2.2 q h
      · exact hAin _ (hL q h)
  have kW := z_grow (X0 := X0) (mm := es0.length) (qs := fun i => ad' (i + 1)) (es := es0.map (zre (zgN p0 n))) (w := w.set p0 (zre (zgN p0 n) e0)) (st := rest) (pc' := pc + 3) hX0 hk hlw (List.length_map _) hm hP1 hI1 hA1 hS1 h4 f1 hroom (stA := rest.map (zv ad)) (zst_ex f2).symm kk
  obtain ⟨t2, a1, b1⟩ := kW T' rfl X'
  exact ⟨t2, stp t2 a1, b1⟩
section ZCT
variable {X0 X : ZX} {oc d pc n cells slots mcT msT : Nat} {B : ByteArray} {ls : List (Option Value)} {rest : List Value} {w : ZW}
theorem zgoodN {y : MethodName} {By : ByteArray} {maxL : Nat} (h : Cond.code y By maxL none ∈ zwd) : GoodIn zwd (.code y By maxL none :: zwd) := by
  intro w hw
  apply zwd_good
  rcases List.mem_cons.mp hw with rfl | hw <;> assumption
theorem z_preN {D : va_G} {cy ad : Nat → Nat} {A : Nat → Prop} {s : State} {H : Heap} {locs : List Loc} {p0 : Nat} {en : ZE} (hI : ZInj ad n) (hA : ∀ i, i < n → A (ad i)) (hA2 : ∀ q, s.heap.size ≤ q → A q) (hK : va_K D vwCl (ztys cy) s) (hS : ZS ad A s s.heap) (h1 : w.length = n) (h2 : va_P D vwCl (zcw cy ad w) H) (h3 : va_S A s.heap H locs) (hni : zni s) (hp : w[p0]? = some en) (hno : zli 0 en = true) : ∀ U : State, U.heap = H → s.WarmedH U.vm → va_Pc (([Value.ref 0] : List Value).map (zv (fun k => ad (zg [p0] k)))) (ZPreN D cy (fun k => ad (zg [p0] k)) [en] H.size) ([Value.ref (ad p0)] : List Value).toArray U := by
  intro U hU hW
  have h := z_pre (av := [.ref 0]) (is := [p0]) (wc := [en]) hI hA hA2 hK hS h1 h2 h3 (by
    show [w[p0]?] = [some (zre (zg [p0]) en)]
    rw [hp, zre_no hno]) rfl (Nat.le_of_ble_eq_true rfl) U hU hW
  exact ⟨rfl, h.2, zni.warm hW hni⟩
/-- a public constructor -/
theorem z_callI {idx p0 maxL dc mc ms : Nat} {y : MethodName} {By : ByteArray} {en e0 : ZE} {es0 : ZW} (hX : ZOK X oc B d) (hk : ZKp X0 X n cells slots) (hrm : ZRm X0 mcT msT) (hni : ZNI X0) (hd : decode B pc = .ok (.invokespecial idx, 3)) (hl : Cond.methodLink (zcn oc) idx y ∈ zwd) (hq : Cond.instanceMethod y ∈ zwd ∧ Cond.initialized y.cls ∈ zwd ∧ Cond.code y By maxL none ∈ zwd) (hy : y.name = "<init>" ∧ y.cls ≠ "java/lang/invoke/MethodHandle" ∧ y.cls ≠ "java/lang/invoke/VarHandle" ∧ (parseMethodDescriptor y.desc).map (fun d => d.parameters.length) = some 0) (hmx : maxL ≤ 20) (hM : ∀ l, ZCN l y By maxL dc [.ref 0] [en] (e0 :: es0) mc ms) (hdc : dc + 1 ≤ d) (hroom : cells + mc ≤ mcT ∧ slots + ms ≤ msT) (hw : w.length = n) (hm : n + es0.length ≤ 1000) (hp : w[p0]? = some en) (hno : zli 0 en = true) (hin : (e0 :: es0).all (zli (es0.length + 1)) = true) (hf : zfr n es0.length ls rest w = true) (hrs : (rest.map Value.category).sum ≤ 8)
    (kk : ∀ X', ZOK X' oc B d → ZKp X0 X' (n + es0.length) (cells + mc) (slots + ms) → ZG X' (pc + 3) ls rest (w.set p0 (zre (zgN p0 n) e0) ++ es0.map (zre (zgN p0 n)))) : ZG X pc ls (.ref p0 :: rest) w := by
  have hrm2 := hk.rm hrm
  have hni2 := hk.ni hni
  obtain ⟨p, l, e, R, s, m, args, below, meth, c, D, cy, ad, A, n', cells', slots', Q⟩ := X
  obtain ⟨rfl, rfl, rfl⟩ := hk.num
  intro H locs lsA h1 h2 h3 h4
  have hX0 := hX
  obtain ⟨hx, hb, hown, hts, hK, hI, hA, hS, ⟨hfr, hlo⟩, -, hA2⟩ := hX
  have hcw := cwI (R := R) (mc := mc) (ms := ms) (rm := zrmN dc mc ms) 0 hts (zgoodN hq.2.2) rfl rfl rfl (hts _ hq.2.1) (hts _ hl) (hts _ hq.1) hy.1 hy.2 ⟨by show dc + 1 ≤ _; omega, by show 8 + (maxL + 11) + 40 * dc ≤ _; omega⟩
  have hrr : cells' + mc ≤ R.cells ∧ slots' + ms ≤ R.slots := ⟨Nat.le_trans hroom.1 hrm2.1, Nat.le_trans hroom.2 hrm2.2⟩
  exact z_runN hX0 hk hrr h1 hm h2 h3 h4 hp hin hf (va_runI (As := []) (b := ad p0) (rest := rest.map (zv ad)) ⟨hx, hb, rfl, hown, hts⟩ (hM l D cy (fun k => ad (zg [p0] k)) H.size) hcw ⟨zblindN, z_preN hI hA hA2 hK hS h1 h2 h3 hni2 hp hno⟩ rfl rfl h4.2.1 rfl (lv_room (zrs hrs)) hd hrr) kk
/-- a nest mate's constructor -/
theorem z_callIN {idx p0 maxL dc mc ms : Nat} {y : MethodName} {By : ByteArray} {en e0 : ZE} {es0 : ZW} (hX : ZOK X oc B d) (hk : ZKp X0 X n cells slots) (hrm : ZRm X0 mcT msT) (hni : ZNI X0) (hd : decode B pc = .ok (.invokespecial idx, 3)) (hl : ∀ U, zni U → va_Nw (.methodLinkNest (zcn oc) idx y RX5) U) (hq : Cond.instanceMethod y ∈ zwd ∧ Cond.initialized y.cls ∈ zwd ∧ Cond.code y By maxL none ∈ zwd) (hy : y.name = "<init>" ∧ y.cls ≠ "java/lang/invoke/MethodHandle" ∧ y.cls ≠ "java/lang/invoke/VarHandle" ∧ (parseMethodDescriptor y.desc).map (fun d => d.parameters.length) = some 0) (hmx : maxL ≤ 20) (hM : ∀ l, ZCN l y By maxL dc [.ref 0] [en] (e0 :: es0) mc ms) (hdc : dc + 1 ≤ d) (hroom : cells + mc ≤ mcT ∧ slots + ms ≤ msT) (hw : w.length = n) (hm : n + es0.length ≤ 1000) (hp : w[p0]? = some en) (hno : zli 0 en = true) (hin : (e0 :: es0).all (zli (es0.length + 1)) = true) (hf : zfr n es0.length ls rest w = true) (hrs : (rest.map Value.category).sum ≤ 8)
    (kk : ∀ X', ZOK X' oc B d → ZKp X0 X' (n + es0.length) (cells + mc) (slots + ms) → ZG X' (pc + 3) ls rest (w.set p0 (zre (zgN p0 n) e0) ++ es0.map (zre (zgN p0 n)))) : ZG X pc ls (.ref p0 :: rest) w := by
  have hrm2 := hk.rm hrm
  have hni2 := hk.ni hni
  obtain ⟨p, l, e, R, s, m, args, below, meth, c, D, cy, ad, A, n', cells', slots', Q⟩ := X
  obtain ⟨rfl, rfl, rfl⟩ := hk.num
  intro H locs lsA h1 h2 h3 h4
  have hX0 := hX
  obtain ⟨hx, hb, hown, hts, hK, hI, hA, hS, ⟨hfr, hlo⟩, -, hA2⟩ := hX
  have hcw := va_cnB (R := R) (mc := mc) (ms := ms) (rm := zrmN dc mc ms) 0 hts (zgoodN hq.2.2) rfl rfl rfl (hl s hni2) (hts _ hq.2.1) hy.2 ⟨by show dc + 1 ≤ _; omega, by show 8 + (maxL + 11) + 40 * dc ≤ _; omega⟩
  have hrr : cells' + mc ≤ R.cells ∧ slots' + ms ≤ R.slots := ⟨Nat.le_trans hroom.1 hrm2.1, Nat.le_trans hroom.2 hrm2.2⟩
  exact z_runN hX0 hk hrr h1 hm h2 h3 h4 hp hin hf (va_runIN (As := []) (b := ad p0) (rest := rest.map (zv ad)) ⟨hx, hb, rfl, hown, hts⟩ (hM l D cy (fun k => ad (zg [p0] k)) H.size) ⟨hcw, hy.1, hts _ hq.1⟩ ⟨zblindN, z_preN hI hA hA2 hK hS h1 h2 h3 hni2 hp hno⟩ rfl rfl h4.2.1 rfl (lv_room (zrs hrs)) hd hrr) kk
end ZCT
