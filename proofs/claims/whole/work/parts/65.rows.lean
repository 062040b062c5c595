/-! ===== rows of references: made, filled; rows of rows ===== -/
theorem outer_V (c : ClassId) (N h0 : Nat) : ∀ i : Nat, Jvm.Free.Multi.outerC c N h0 i = arrV c N (fun j => va_rf (if j < i then some (h0 + 1 + j) else none))
  | 0 => by
    show ({ cls := c, slots := Array.replicate N .null, vm := .none } : Cell) = _
    rw [arrV_new]
    refine congrArg (arrV c N) (funext fun j => ?_)
    simp [va_rf]
  | i + 1 => by
    show (Jvm.Free.Multi.outerC c N h0 i).setSlot i (.ref (h0 + 1 + i)) = _
    rw [outer_V c N h0 i, arrV_store]
    refine congrArg (arrV c N) (funext fun j => ?_)
    by_cases e : j = i
    · subst e
      simp [updV, va_rf]
    · by_cases h : j < i
      · simp [updV, e, h, Nat.lt_succ_of_lt h]
      · simp [updV, e, h, show ¬ j < i + 1 by omega]
section ZAQ
variable {X0 X : ZX} {oc d pc n cells slots mc ms : Nat} {B : ByteArray} {ls : List (Option Value)} {st : List Value} {w : ZW}
theorem z_newq {idx ci N : Nat} {C : String} (hX : ZOK X oc B d) (hk : ZKp X0 X n cells slots) (hrm : ZRm X0 mc ms) (hni : ZNI X0) (hroom : cells + 1 ≤ mc ∧ slots + N ≤ ms) (hd : decode B pc = .ok (.anewarray idx, 3)) (hcl : Cond.classLink (zcn oc) idx C ∈ zwd) (hao : ∀ U, zni U → va_AO C U) (ht : ∀ cy : Nat → Nat, (ztys cy)[ci - 97]? = some (cy (ci - 97), .object C)) (hci : ¬ ci < 100) (hN : N ≤ 2000) (hw : w.length = n) (hm : n < 1000) (hf : zfr n 1 ls st w = true)
    (kk : ∀ X', ZOK X' oc B d → ZKp X0 X' (n + 1) (cells + 1) (slots + N) → ZG X' (pc + 3) ls (.ref n :: st) (w ++ [.inr (ci, List.replicate N .null)])) : ZG X pc ls (.int (nI N) :: st) w := by
  have hrm2 := hk.rm hrm
  have hni2 := hk.ni hni
  obtain ⟨p, l, e, R, s, m, args, below, meth, c, D, cy, ad, A, n', cells', slots', Q⟩ := X
  obtain ⟨rfl, rfl, rfl⟩ := hk.num
  intro H locs lsA h1 h2 h3 h4
  have hX0 := hX
  obtain ⟨hx, hb, hown, hts, hK, hI, hA, hS, -, -, hA2⟩ := hX
  have hfe : zfe n' 1 (.inr (ci, List.replicate N .null)) = true := by
    show (List.replicate N Value.null).all (zfv n' 1) = true
    rw [List.all_eq_true]
    intro v hv
    rw [List.eq_of_mem_replicate hv]
    rfl
  refine va_newq hx hb hown (hts _ hcl) (hao s hni2) hK h2 (hI.D hA h1) h3 hA2 (n := nI N) (N' := N) (nI_pos (by omega)) (nI_clamp (by omega)) (by omega) (by have := hrm2.1; omega) (by have := hrm2.2; omega) hd (fun q cA H1 hK1 hP1 hD1 hS1 => ?_)
  have ec := zcA hK hK1 (ht cy)
  subst ec
  have he : zce cy ad (.inr (ci, List.replicate N .null)) = .inl (cy (ci - 97), N, .inr (.inr (.inr (.inr (fun _ => none))))) := by
    rw [zce_row hci, List.length_replicate]
    congr 7
    funext j
    rw [List.getElem?_replicate]
    split <;> rfl
  rw [← he] at hP1 hD1
  exact z_grow1 hX0 hk h1 hm hP1 hD1 hS1 h4 hf hfe ⟨by have := hrm2.1; omega, by have := hrm2.2; omega⟩ kk
theorem z_aast {q ci j v co N : Nat} {C : String} {T : u_T} {fs vs fs' : List Value} {w' : ZW} (hX : ZOK X oc B d) (hd : decode B pc = .ok (.aastore, 1)) (hw : w[q]? = some (.inr (ci, fs))) (hci : ¬ ci < 100) (ht : ∀ cy : Nat → Nat, (ztys cy)[ci - 97]? = some (cy (ci - 97), .object C)) (hv : w[v]? = some (.inr (co, vs))) (hco : co < 100) (hcl : vwCl[co]? = some (C, T, N)) (hj : j < fs.length) (hn : fs.length < 2147483648) (hfs : fs.set j (.ref v) = fs') (hw' : w.set q (.inr (ci, fs')) = w') (kk : ZG X (pc + 1) ls st w') : ZG X pc ls (.ref v :: .int (nI j) :: .ref q :: st) w := by
  subst hfs
  subst hw'
  obtain ⟨p, l, e, R, s, m, args, below, meth, c, D, cy, ad, A, n', cells', slots', Q⟩ := X
  intro H locs lsA h1 h2 h3 h4
  obtain ⟨hx, hb, hown, hts, hK, hI, hA, -⟩ := hX
  have hb1 : (zcw cy ad w)[v]? = some (ad v, .inr (co, vs.map (zv ad))) := by rw [zcw_get hv, zce_obj hco]
  refine va_astq hx hb hK h2 (hI.D hA h1) h3 q (ci - 97) v co (r := (C, T, N)) ((zcw_get hw).trans (congrArg some (congrArg (Prod.mk (ad q)) (zce_row hci)))) (ht cy) hb1 hcl (vp_in_nI hj hn) hd (fun H1 locs1 g1 g2 g3 => ?_)
  rw [nI_clamp (by omega)] at g1
  refine kk H1 locs1 lsA (by rw [List.length_set]; exact h1) ?_ g3 h4
  have he : zce cy ad (.inr (ci, fs.set j (.ref v))) = .inl (cy (ci - 97), fs.length, .inr (.inr (.inr (.inr (va_up (fun j => (fs[j]?).bind (zr ad)) j (some (ad v))))))) := by
    rw [zce_row hci, List.length_set]
    congr 7
    funext k
    by_cases e : k = j
    · subst e
      rw [List.getElem?_set_self hj, va_up_self]
      rfl
    · rw [List.getElem?_set_ne (fun h => e h.symm), va_up_ne _ _ e]
  rw [← zcw_set, he]
  exact g1
theorem z_mna {idx : Nat} (hX : ZOK X oc B d) (hk : ZKp X0 X n cells slots) (hrm : ZRm X0 mc ms) (hni : ZNI X0) (hroom : cells + 4 ≤ mc ∧ slots + 303 ≤ ms) (hd : decode B pc = .ok (.multianewarray idx 2, 4)) (hcl : Cond.classLink (zcn oc) idx ("[" ++ (FieldType.array .long).toString) ∈ zwd) (hw : w.length = n) (hm : n + 4 ≤ 1000) (hf : zfr n 4 ls st w = true)
    (kk : ∀ X', ZOK X' oc B d → ZKp X0 X' (n + 4) (cells + 4) (slots + 303) → ZG X' (pc + 4) ls (.ref n :: st) (w ++ [.inr (103, [.ref (n + 1), .ref (n + 2), .ref (n + 3)]), .inl (1, 100, .inr (fun _ => 0)), .inl (1, 100, .inr (fun _ => 0)), .inl (1, 100, .inr (fun _ => 0))])) : ZG X pc ls (.int (nI 100) :: .int (nI 3) :: st) w := by
  have hrm2 := hk.rm hrm
  have hni2 := hk.ni hni
  obtain ⟨p, l, e, R, s, m, args, below, meth, c, D, cy, ad, A, n', cells', slots', Q⟩ := X
  obtain ⟨rfl, rfl, rfl⟩ := hk.num
  intro H locs lsA h1 h2 h3 h4
  have hX0 := hX
  obtain ⟨hx, hb, hown, hts, hK, hI, hA, hS, -, -, hA2⟩ := hX
  obtain ⟨f1, f2, f3⟩ := zfr_spec hf
  have c3 : (nI 3).toNatClampNeg = 3 := nI_clamp (by decide)
  have c100 : (nI 100).toNatClampNeg = 100 := nI_clamp (by decide)
  have r1 := hrm2.1
  have r2 := hrm2.2
  intro T hT Xs
  obtain ⟨vm₁, cA, comp, -, fA, fC, hO, -, X', step⟩ := Xs.multianewarray2F hx hown (hts _ hcl) hni2.2.2 (hts _ ka_l) (g := F0 m pc lsA ((Value.int (nI 100) :: .int (nI 3) :: st).map (zv ad))) rfl (by rw [hb]; exact hd) rfl (nI_pos (by decide)) (nI_pos (by decide)) (by rw [c3]; decide) (by rw [c100]; decide) (by rw [c100]; decide) rfl rfl (by rw [c3]; omega) (by rw [c3, c100]; omega)
  have eA : some cA = some (cy 6) := fA.symm.trans (hK.2 6 (cy 6, .array .long) rfl).2
  have eC : some comp = some (cy 1) := fC.symm.trans (hK.2 1 (cy 1, .long) rfl).2
  cases eA
  cases eC
  rw [c3, c100] at X' step
  generalize hF : Jvm.Free.Multi.fill (T.setVm vm₁) (cy 6) (cy 1) 3 100 (defaultValue .long) 3 = F at X' step
  have hTh : (T.setVm vm₁).heap = H := hT
  obtain ⟨g1, g2, -, -⟩ := Jvm.Free.Multi.fill_facts (T.setVm vm₁) (cy 6) (cy 1) 3 100 (defaultValue .long) 3
  rw [hF, hTh] at g1 g2
  have hold : ∀ x : Nat, x < H.size → F.heap[x]? = H[x]? := fun x hx => by
    have h9 := Jvm.Free.Multi.fill_old (T.setVm vm₁) (cy 6) (cy 1) 3 100 (defaultValue .long) (a := x) (by rw [hTh]; exact hx) 3
    rw [hF, hTh] at h9
    exact h9
  have hrow : ∀ j : Nat, j < 3 → F.heap[H.size + 1 + j]? = some (vp_cell (cy 1) (100, .inr (.inl (fun _ => 0)))) := fun j hj => by
    have h9 := Jvm.Free.Multi.fill_inner (T.setVm vm₁) (cy 6) (cy 1) 3 100 (defaultValue .long) 3 j hj
    rw [hF, hTh] at h9
    rw [h9, vp_cell_l, ← arrV_new]
    rfl
  rw [outer_V] at g2
  have hlt : ∀ i, i < n' → ad i < H.size := fun i hi => by
    obtain ⟨ek, hek⟩ : ∃ ek, w[i]? = some ek := ⟨w[i]'(by rw [h1]; exact hi), List.getElem?_eq_getElem (by rw [h1]; exact hi)⟩
    exact (h2 i _ (zcw_get hek)).lt
  have hq : ∀ i, i < 4 → zex ad n' 4 (fun i => H.size + i) (n' + i) = H.size + i := fun i hi => by
    show (if n' ≤ n' + i ∧ n' + i < n' + 4 then H.size + (n' + i - n') else ad (n' + i)) = _
    rw [if_pos (by omega), show n' + i - n' = i by omega]
  have hadlt : ∀ i, i < n' → zex ad n' 4 (fun i => H.size + i) i = ad i := fun i hi => zex_out (by omega)
  have hP1 : va_P D vwCl (zcw cy (zex ad n' 4 (fun i => H.size + i)) (w ++ [.inr (103, [.ref (n' + 1), .ref (n' + 2), .ref (n' + 3)]), .inl (1, 100, .inr (fun _ => 0)), .inl (1, 100, .inr (fun _ => 0)), .inl (1, 100, .inr (fun _ => 0))])) F.heap := by
    intro k q hkq
    rw [zcw_at] at hkq
    obtain ⟨ek, h5, h6⟩ := Option.map_eq_some_iff.mp hkq
    subst h6
    by_cases hkn : k < n'
    · rw [List.getElem?_append_left (by rw [h1]; exact hkn)] at h5
      rw [hadlt k hkn, zce_ex (List.all_eq_true.mp f3 ek (List.mem_of_getElem? h5))]
      exact (h2 k _ (zcw_get h5)).kept (hold _ (hlt k hkn))
    · rw [List.getElem?_append_right (by rw [h1]; omega), h1] at h5
      have hk4 : k - n' < 4 := (List.getElem?_eq_some_iff.mp h5).1
      have hkk : k = n' + (k - n') := by omega
      rw [hkk, hq _ hk4]
      generalize k - n' = i at h5 hk4
      rcases (show i = 0 ∨ i = 1 ∨ i = 2 ∨ i = 3 by omega) with e | e | e | e <;> subst e
      · cases h5
        show F.heap[H.size]? = some (vp_cell (cy 6) (3, .inr (.inr (.inr (.inr (fun j => (([.ref (n' + 1), .ref (n' + 2), .ref (n' + 3)] : List Value)[j]?).bind (zr (zex ad n' 4 (fun i => H.size + i)))))))))
        rw [g2, vp_cell_q]
        refine congrArg some (congrArg (arrV (cy 6) 3) (funext fun j => congrArg va_rf ?_))
        by_cases hj : j < 3
        · rw [if_pos hj]
          rcases (show j = 0 ∨ j = 1 ∨ j = 2 by omega) with e | e | e <;> subst e
          · show _ = some (zex ad n' 4 (fun i => H.size + i) (n' + 1))
            rw [hq 1 (by omega)]
          · show _ = some (zex ad n' 4 (fun i => H.size + i) (n' + 2))
            rw [hq 2 (by omega)]
          · show _ = some (zex ad n' 4 (fun i => H.size + i) (n' + 3))
            rw [hq 3 (by omega)]
        · rw [if_neg hj, List.getElem?_eq_none (by show 3 ≤ j; omega)]
          rfl
      · cases h5
        exact hrow 0 (by omega)
      · cases h5
        exact hrow 1 (by omega)
      · cases h5
        exact hrow 2 (by omega)
  have hI1 : ZInj (zex ad n' 4 (fun i => H.size + i)) (n' + 4) := by
    intro i j hi hj hij
    by_cases hi2 : i < n'
    · by_cases hj2 : j < n'
      · rw [hadlt i hi2, hadlt j hj2] at hij
        exact hI i j hi2 hj2 hij
      · have e9 := hq (j - n') (by omega)
        rw [show n' + (j - n') = j by omega] at e9
        rw [hadlt i hi2, e9] at hij
        have := hlt i hi2
        omega
    · have e8 := hq (i - n') (by omega)
      rw [show n' + (i - n') = i by omega] at e8
      by_cases hj2 : j < n'
      · rw [hadlt j hj2, e8] at hij
        have := hlt j hj2
        omega
      · have e9 := hq (j - n') (by omega)
        rw [show n' + (j - n') = j by omega] at e9
        rw [e8, e9] at hij
        omega
  have hA1 : ∀ i, i < n' + 4 → A (zex ad n' 4 (fun i => H.size + i) i) := by
    intro i hi
    by_cases hi2 : i < n'
    · rw [hadlt i hi2]
      exact hA i hi2
    · have e8 := hq (i - n') (by omega)
      rw [show n' + (i - n') = i by omega] at e8
      rw [e8]
      exact hA2 _ (Nat.le_trans h3.1 (by omega))
  have hS1 : va_S A s.heap F.heap locs := ⟨Nat.le_trans h3.1 (by omega), fun x h5 h6 => (hold x (Nat.lt_of_lt_of_le h5 h3.1)).trans (h3.2.1 x h5 h6), h3.2.2⟩
  have kW := z_grow (X0 := X0) (mm := 4) (qs := fun i => H.size + i) (w := w) (st := .ref n' :: st) (pc' := pc + 4) (cells' := cells' + 4) (slots' := slots' + 303) hX0 hk h1 rfl hm hP1 hI1 hA1 hS1 h4 f1 ⟨by omega, by omega⟩ (stA := .ref H.size :: st.map (zv ad)) (by
    rw [List.map_cons, zst_ex f2]
    show _ = Value.ref (zex ad n' 4 (fun i => H.size + i) (n' + 0)) :: _
    rw [hq 0 (by omega)]
    rfl) kk
  obtain ⟨t2, a1, b1⟩ := kW F rfl X'
  refine ⟨t2, step t2 ?_, b1⟩
  rw [hT]
  exact a1
end ZAQ
