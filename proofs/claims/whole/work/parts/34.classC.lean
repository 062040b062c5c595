/-! ===== the class: blow, logs ===== -/
theorem z_copy9 {X : ZX} {oc d pc idx q0 q1 : Nat} {B : ByteArray} {ls : List (Option Value)} {w w2 : ZW} {f g : Nat → Int64} (hX : ZOK X oc B d) (hd : decode B pc = .ok (.invokestatic idx, 3)) (hl : Cond.methodLink (zcn oc) idx arraycopyName ∈ zwd) (hn : Cond.native arraycopyName ∈ zwd) (hs : Cond.static arraycopyName ∈ zwd) (hi : Cond.initialized "java/lang/System" ∈ zwd) (hd1 : 1 ≤ d) (h0 : w[q0]? = some (.inl (1, 10, .inr f))) (h1 : w[q1]? = some (.inl (1, 10, .inr g))) (hw2 : w.set q1 (.inl (1, 10, .inr (va_cpy f g 0 0 9))) = w2) (kk : ZG X (pc + 3) ls [] w2) : ZG X pc ls [.int (nI 9), .int (nI 0), .ref q1, .int (nI 0), .ref q0] w := by
  subst hw2
  obtain ⟨p, l, e, R, s, m, args, below, meth, c, D, cy, ad, A, n, cells, slots, Q⟩ := X
  intro H locs lsA g1 g2 g3 g4
  obtain ⟨hx, hb, hown, hts, hK, hI, hA, hS, ⟨hfr, hlo⟩, hcs, hA2⟩ := hX
  refine va_copyl hx hb g4.2.1.symm hown (hts _ hl) (hts _ hn) (hts _ hs) (hts _ hi) hK g2 (hI.D hA g1) g3 q0 q1 1 1 (zcw_get h0) (zcw_get h1) (ty := .long) rfl rfl rfl (sp := nI 0) (dp := nI 0) (n := nI 9) (by decide) (by decide) (by decide) (by decide) (by decide) (fun i _ => rfl) (by omega) (by show 0 + (7 + 11) ≤ _; omega) hd (fun H1 locs1 k1 k2 k3 => ?_)
  refine kk H1 locs1 lsA (by rw [List.length_set]; exact g1) ?_ k3 g4
  rw [← zcw_set]
  exact k1
def absL (x : Int64) : Int64 := if 0 ≤ x then x else -x
def frC (nt : Nat → Int64) (w : Nat) : Nat := if 0 < nt w then zFROM.getD w 0 else zTO.getD w 0
def toC (nt : Nat → Int64) (w : Nat) : Nat := if 0 < nt w then zTO.getD w 0 else zFROM.getD w 0
def dW (n nt : Nat → Int64) (w q : Nat) : Int64 := if frC nt w = 9 then 0 else if q = frC nt w then -(goF (n (frC nt w)) (absL (nt w))) else if q = toC nt w then goF (n (frC nt w)) (absL (nt w)) else 0
def accC (n nt : Nat → Int64) (q k : Nat) (x : Int64) : Int64 := zfold (fun w s => s + dW n nt w q) k x
theorem accC_s (n nt : Nat → Int64) (q k : Nat) (x : Int64) : accC n nt q (k + 1) x = accC n nt q k x + dW n nt k q := rfl
theorem ftC_ne {nt : Nat → Int64} {w : Nat} (hw : w < 24) : frC nt w ≠ toC nt w := by
  unfold frC toC
  have := zFT w hw
  split
  · exact this
  · exact fun e => this e.symm
set_option maxHeartbeats 4000000 in
set_option maxRecDepth 100000 in
theorem lp_bl_17 {X : ZX} {post : Option Value → ZW → Prop} (hX : ZOK X 4 cX4_blow 1) (hR : ZRet X none post) (rt : Nat → Int32) (pl0 n0 bf : Nat → Int64) (hm : Int32) (g nt : Nat → Int64) (hbf : ∀ q, q < 9 → bf q = n0 q) (hpost : ∀ pl, (∀ q, q < 10 → pl q = accC n0 nt q 24 (pl0 q)) → post none (WSt rt pl bf hm g [.inl (1, 24, .inr nt)])) : ∀ (n k : Nat) (pl : Nat → Int64), k ≤ 24 → 24 < k + n → (∀ q, q < 10 → pl q = accC n0 nt q k (pl0 q)) → ZG X 17 [some (.ref 0), some (.ref 4), some (.int (nI k)), none, none, none, none, none] [] (WSt rt pl bf hm g [.inl (1, 24, .inr nt)]) := by
  intro n
  induction n with
  | zero => intro k pl z1 z2; omega
  | succ n ih =>
    intro k pl hk1 hk2 hp
    refine z_iload_n hX dX4_blow_17 rfl ?_
    refine z_bipush (v := nI 24) hX dX4_blow_18 rfl ?_
    first | with_reducible refine z_icmp_geN (tgt := 132) hX dX4_blow_20 (by decide) (by omega) (by omega) (fun c_20 => ?_) (fun c_20 => ?_) | refine z_icmp_ge (tgt := 132) hX dX4_blow_20 (by decide) (fun c_20 => ?_) (fun c_20 => ?_)
    · -- 20 t
      have zk : k = 24 := by omega
      subst zk
      refine z_vret hX hR dX4_blow_132 ?_
      exact hpost pl hp
    · -- 20 f
      have hF := zFROM_le k
      have hT := zTO_le k
      have hFT := zFT k (by omega)
      refine z_aload_n hX dX4_blow_23 rfl ?_
      refine z_iload_n hX dX4_blow_24 rfl ?_
      refine z_lald hX dX4_blow_25 rfl (by omega) (by decide) ?_
      refine z_lconst (v := 0) hX dX4_blow_26 rfl ?_
      refine z_lcmp hX dX4_blow_27 ?_
      refine z_lif_le (tgt := 35) hX dX4_blow_28 (by decide) (fun c_28 => ?_) (fun c_28 => ?_)
      · -- 28 t
        refine z_iconst (v := nI 0) hX dX4_blow_35 rfl ?_
        refine z_istore_n (ls' := [_, _, _, _, _, _, _, _]) hX dX4_blow_36 (Nat.le_of_ble_eq_true rfl) rfl ?_
        refine z_iload_n hX dX4_blow_37 rfl ?_
        refine z_if_eq (tgt := 49) hX dX4_blow_38 (by decide) (fun _ => ?_) (fun c => absurd c (by decide))
        refine z_stat (nm := "TO") (xs := zTO) (k := 1001) hX dX4_blow_49 (fun _ _ _ _ h => ⟨h.2.1, h.2.2.2.2.2.2.2⟩) ?_
        refine z_iload_n hX dX4_blow_52 rfl ?_
        first | refine z_iald hX dX4_blow_53 rfl (by omega) (by decide) ?_ | refine z_stld (nm := "FROM") (xs := zFROM) hX dX4_blow_53 (fun _ _ _ _ h => h.1) (by show _ < 24; omega) (by decide) ?_ | refine z_stld (nm := "TO") (xs := zTO) hX dX4_blow_53 (fun _ _ _ _ h => h.2.1) (by show _ < 24; omega) (by decide) ?_ | refine z_stld (nm := "FALL") (xs := zFALL) hX dX4_blow_53 (fun _ _ _ _ h => h.2.2.1) (by show _ < 81; omega) (by decide) ?_
        refine z_istore (ls' := [_, _, _, _, _, _, _, _]) hX dX4_blow_54 (Nat.le_of_ble_eq_true rfl) rfl ?_
        refine z_iload_n hX dX4_blow_56 rfl ?_
        refine z_if_eq (tgt := 68) hX dX4_blow_57 (by decide) (fun _ => ?_) (fun c => absurd c (by decide))
        refine z_stat (nm := "FROM") (xs := zFROM) (k := 1000) hX dX4_blow_68 (fun _ _ _ _ h => ⟨h.1, h.2.2.2.2.2.2.1⟩) ?_
        refine z_iload_n hX dX4_blow_71 rfl ?_
        first | refine z_iald hX dX4_blow_72 rfl (by omega) (by decide) ?_ | refine z_stld (nm := "FROM") (xs := zFROM) hX dX4_blow_72 (fun _ _ _ _ h => h.1) (by show _ < 24; omega) (by decide) ?_ | refine z_stld (nm := "TO") (xs := zTO) hX dX4_blow_72 (fun _ _ _ _ h => h.2.1) (by show _ < 24; omega) (by decide) ?_ | refine z_stld (nm := "FALL") (xs := zFALL) hX dX4_blow_72 (fun _ _ _ _ h => h.2.2.1) (by show _ < 81; omega) (by decide) ?_
        refine z_istore (ls' := [_, _, _, _, _, _, _, _]) hX dX4_blow_73 (Nat.le_of_ble_eq_true rfl) rfl ?_
        refine z_iload hX dX4_blow_75 rfl ?_
        refine z_bipush (v := nI 9) hX dX4_blow_77 rfl ?_
        first | with_reducible refine z_icmp_eqN (tgt := 126) hX dX4_blow_79 (by decide) (by omega) (by omega) (fun c_79 => ?_) (fun c_79 => ?_) | refine z_icmp_eq (tgt := 126) hX dX4_blow_79 (by decide) (fun c_79 => ?_) (fun c_79 => ?_)
        · -- 79 t
          first | refine z_iincN (b := 1) (ls' := [_, _, _, _, _, _, _, _]) hX dX4_blow_126 rfl rfl rfl ?_ | refine z_iinc (ls' := [_, _, _, _, _, _, _, _]) hX dX4_blow_126 rfl rfl ?_
          refine z_goto (tgt := 17) hX dX4_blow_129 (by decide) ?_
          refine z_forget (ls' := [some (.ref 0), some _, some _, none, none, none, none, none]) ⟨rfl, rfl, rfl, trivial⟩ ?_
          have hfr : frC nt k = zTO.getD k 0 := if_neg (Int64.not_lt.mpr c_28)
          have hto : toC nt k = zFROM.getD k 0 := if_neg (Int64.not_lt.mpr c_28)
          refine ih (k + 1) pl (by omega) (by omega) (fun q hq => ?_)
          rw [accC_s, hp q hq]
          unfold dW
          rw [hfr, if_pos c_79, Int64.add_zero]
        · -- 79 f
          refine z_aload_n hX dX4_blow_82 rfl ?_
          refine z_get hX dX4_blow_83 f_4_19 rfl rfl ?_
          refine z_iload hX dX4_blow_86 rfl ?_
          refine z_lald hX dX4_blow_88 rfl (by omega) (by decide) ?_
          refine z_aload_n hX dX4_blow_89 rfl ?_
          refine z_iload_n hX dX4_blow_90 rfl ?_
          refine z_lald hX dX4_blow_91 rfl (by omega) (by decide) ?_
          refine z_callS0 hX dX4_blow_92 ms_4_50 (c_J_abs _ _) (by decide) rfl rfl (Nat.le_of_ble_eq_true rfl) (fun r w1 hp _ => ?_)
          obtain ⟨rfl, rfl⟩ := hp
          refine z_lmul hX dX4_blow_95 ?_
          refine z_ldc2 hX dX4_blow_96 k_4_56 ?_
          refine z_ldiv hX dX4_blow_99 (by decide) ?_
          refine z_lstore (ls' := [_, _, _, _, _, _, _, _]) hX dX4_blow_100 (Nat.le_of_ble_eq_true rfl) rfl ?_
          refine z_aload_n hX dX4_blow_102 rfl ?_
          refine z_get hX dX4_blow_103 f_4_15 rfl rfl ?_
          refine z_iload hX dX4_blow_106 rfl ?_
          first | refine z_dup2_2 hX dX4_blow_108 rfl ?_ | refine z_dup2_11 hX dX4_blow_108 rfl rfl ?_
          refine z_lald hX dX4_blow_109 rfl (by omega) (by decide) ?_
          refine z_lload hX dX4_blow_110 rfl ?_
          refine z_lsub hX dX4_blow_112 ?_
          refine z_last (w' := [_, _, _, _, _]) hX dX4_blow_113 rfl (by omega) (by decide) rfl ?_
          refine z_aload_n hX dX4_blow_114 rfl ?_
          refine z_get hX dX4_blow_115 f_4_15 rfl rfl ?_
          refine z_iload hX dX4_blow_118 rfl ?_
          first | refine z_dup2_2 hX dX4_blow_120 rfl ?_ | refine z_dup2_11 hX dX4_blow_120 rfl rfl ?_
          refine z_lald hX dX4_blow_121 rfl (by omega) (by decide) ?_
          refine z_lload hX dX4_blow_122 rfl ?_
          refine z_ladd hX dX4_blow_124 ?_
          refine z_last (w' := [_, _, _, _, _]) hX dX4_blow_125 rfl (by omega) (by decide) rfl ?_
          first | refine z_iincN (b := 1) (ls' := [_, _, _, _, _, _, _, _]) hX dX4_blow_126 rfl rfl rfl ?_ | refine z_iinc (ls' := [_, _, _, _, _, _, _, _]) hX dX4_blow_126 rfl rfl ?_
          refine z_goto (tgt := 17) hX dX4_blow_129 (by decide) ?_
          refine z_forget (ls' := [some (.ref 0), some _, some _, none, none, none, none, none]) ⟨rfl, rfl, rfl, trivial⟩ ?_
          have hfr : frC nt k = zTO.getD k 0 := if_neg (Int64.not_lt.mpr c_28)
          have hto : toC nt k = zFROM.getD k 0 := if_neg (Int64.not_lt.mpr c_28)
          have hgo : bf (zTO.getD k 0) = n0 (zTO.getD k 0) := hbf _ (by omega)
          refine ih (k + 1) (vp_updL (vp_updL pl (zTO.getD k 0) (pl (zTO.getD k 0) - goF (bf (zTO.getD k 0)) (absL (nt k)))) (zFROM.getD k 0) (vp_updL pl (zTO.getD k 0) (pl (zTO.getD k 0) - goF (bf (zTO.getD k 0)) (absL (nt k))) (zFROM.getD k 0) + goF (bf (zTO.getD k 0)) (absL (nt k)))) (by omega) (by omega) (fun q hq => ?_)
          rw [accC_s, ← hp q hq]
          unfold dW
          rw [hfr, hto, if_neg c_79, hgo]
          by_cases e1 : q = zFROM.getD k 0
          · rw [e1, pk_uLs, pk_uLn (by omega), if_neg (by omega), if_pos rfl]
          · rw [pk_uLn e1]
            by_cases e2 : q = zTO.getD k 0
            · rw [e2, pk_uLs, if_pos rfl, Int64.sub_eq_add_neg]
            · rw [pk_uLn e2, if_neg e2, if_neg e1, Int64.add_zero]
      · -- 28 f
        refine z_iconst (v := nI 1) hX dX4_blow_31 rfl ?_
        refine z_goto (tgt := 36) hX dX4_blow_32 (by decide) ?_
        refine z_istore_n (ls' := [_, _, _, _, _, _, _, _]) hX dX4_blow_36 (Nat.le_of_ble_eq_true rfl) rfl ?_
        refine z_iload_n hX dX4_blow_37 rfl ?_
        refine z_if_eq (tgt := 49) hX dX4_blow_38 (by decide) (fun c => absurd c (by decide)) (fun _ => ?_)
        refine z_stat (nm := "FROM") (xs := zFROM) (k := 1000) hX dX4_blow_41 (fun _ _ _ _ h => ⟨h.1, h.2.2.2.2.2.2.1⟩) ?_
        refine z_iload_n hX dX4_blow_44 rfl ?_
        first | refine z_iald hX dX4_blow_45 rfl (by omega) (by decide) ?_ | refine z_stld (nm := "FROM") (xs := zFROM) hX dX4_blow_45 (fun _ _ _ _ h => h.1) (by show _ < 24; omega) (by decide) ?_ | refine z_stld (nm := "TO") (xs := zTO) hX dX4_blow_45 (fun _ _ _ _ h => h.2.1) (by show _ < 24; omega) (by decide) ?_ | refine z_stld (nm := "FALL") (xs := zFALL) hX dX4_blow_45 (fun _ _ _ _ h => h.2.2.1) (by show _ < 81; omega) (by decide) ?_
        refine z_goto (tgt := 54) hX dX4_blow_46 (by decide) ?_
        refine z_istore (ls' := [_, _, _, _, _, _, _, _]) hX dX4_blow_54 (Nat.le_of_ble_eq_true rfl) rfl ?_
        refine z_iload_n hX dX4_blow_56 rfl ?_
        refine z_if_eq (tgt := 68) hX dX4_blow_57 (by decide) (fun c => absurd c (by decide)) (fun _ => ?_)
        refine z_stat (nm := "TO") (xs := zTO) (k := 1001) hX dX4_blow_60 (fun _ _ _ _ h => ⟨h.2.1, h.2.2.2.2.2.2.2⟩) ?_
        refine z_iload_n hX dX4_blow_63 rfl ?_
        first | refine z_iald hX dX4_blow_64 rfl (by omega) (by decide) ?_ | refine z_stld (nm := "FROM") (xs := zFROM) hX dX4_blow_64 (fun _ _ _ _ h => h.1) (by show _ < 24; omega) (by decide) ?_ | refine z_stld (nm := "TO") (xs := zTO) hX dX4_blow_64 (fun _ _ _ _ h => h.2.1) (by show _ < 24; omega) (by decide) ?_ | refine z_stld (nm := "FALL") (xs := zFALL) hX dX4_blow_64 (fun _ _ _ _ h => h.2.2.1) (by show _ < 81; omega) (by decide) ?_
        refine z_goto (tgt := 73) hX dX4_blow_65 (by decide) ?_
        refine z_istore (ls' := [_, _, _, _, _, _, _, _]) hX dX4_blow_73 (Nat.le_of_ble_eq_true rfl) rfl ?_
        refine z_iload hX dX4_blow_75 rfl ?_
        refine z_bipush (v := nI 9) hX dX4_blow_77 rfl ?_
        first | with_reducible refine z_icmp_eqN (tgt := 126) hX dX4_blow_79 (by decide) (by omega) (by omega) (fun c_79 => ?_) (fun c_79 => ?_) | refine z_icmp_eq (tgt := 126) hX dX4_blow_79 (by decide) (fun c_79 => ?_) (fun c_79 => ?_)
        · -- 79 t
          first | refine z_iincN (b := 1) (ls' := [_, _, _, _, _, _, _, _]) hX dX4_blow_126 rfl rfl rfl ?_ | refine z_iinc (ls' := [_, _, _, _, _, _, _, _]) hX dX4_blow_126 rfl rfl ?_
          refine z_goto (tgt := 17) hX dX4_blow_129 (by decide) ?_
          refine z_forget (ls' := [some (.ref 0), some _, some _, none, none, none, none, none]) ⟨rfl, rfl, rfl, trivial⟩ ?_
          have hfr : frC nt k = zFROM.getD k 0 := if_pos c_28
          have hto : toC nt k = zTO.getD k 0 := if_pos c_28
          refine ih (k + 1) pl (by omega) (by omega) (fun q hq => ?_)
          rw [accC_s, hp q hq]
          unfold dW
          rw [hfr, if_pos c_79, Int64.add_zero]
        · -- 79 f
          refine z_aload_n hX dX4_blow_82 rfl ?_
          refine z_get hX dX4_blow_83 f_4_19 rfl rfl ?_
          refine z_iload hX dX4_blow_86 rfl ?_
          refine z_lald hX dX4_blow_88 rfl (by omega) (by decide) ?_
          refine z_aload_n hX dX4_blow_89 rfl ?_
          refine z_iload_n hX dX4_blow_90 rfl ?_
          refine z_lald hX dX4_blow_91 rfl (by omega) (by decide) ?_
          refine z_callS0 hX dX4_blow_92 ms_4_50 (c_J_abs _ _) (by decide) rfl rfl (Nat.le_of_ble_eq_true rfl) (fun r w1 hp _ => ?_)
          obtain ⟨rfl, rfl⟩ := hp
          refine z_lmul hX dX4_blow_95 ?_
          refine z_ldc2 hX dX4_blow_96 k_4_56 ?_
          refine z_ldiv hX dX4_blow_99 (by decide) ?_
          refine z_lstore (ls' := [_, _, _, _, _, _, _, _]) hX dX4_blow_100 (Nat.le_of_ble_eq_true rfl) rfl ?_
          refine z_aload_n hX dX4_blow_102 rfl ?_
          refine z_get hX dX4_blow_103 f_4_15 rfl rfl ?_
          refine z_iload hX dX4_blow_106 rfl ?_
          first | refine z_dup2_2 hX dX4_blow_108 rfl ?_ | refine z_dup2_11 hX dX4_blow_108 rfl rfl ?_
          refine z_lald hX dX4_blow_109 rfl (by omega) (by decide) ?_
          refine z_lload hX dX4_blow_110 rfl ?_
          refine z_lsub hX dX4_blow_112 ?_
          refine z_last (w' := [_, _, _, _, _]) hX dX4_blow_113 rfl (by omega) (by decide) rfl ?_
          refine z_aload_n hX dX4_blow_114 rfl ?_
          refine z_get hX dX4_blow_115 f_4_15 rfl rfl ?_
          refine z_iload hX dX4_blow_118 rfl ?_
          first | refine z_dup2_2 hX dX4_blow_120 rfl ?_ | refine z_dup2_11 hX dX4_blow_120 rfl rfl ?_
          refine z_lald hX dX4_blow_121 rfl (by omega) (by decide) ?_
          refine z_lload hX dX4_blow_122 rfl ?_
          refine z_ladd hX dX4_blow_124 ?_
          refine z_last (w' := [_, _, _, _, _]) hX dX4_blow_125 rfl (by omega) (by decide) rfl ?_
          first | refine z_iincN (b := 1) (ls' := [_, _, _, _, _, _, _, _]) hX dX4_blow_126 rfl rfl rfl ?_ | refine z_iinc (ls' := [_, _, _, _, _, _, _, _]) hX dX4_blow_126 rfl rfl ?_
          refine z_goto (tgt := 17) hX dX4_blow_129 (by decide) ?_
          refine z_forget (ls' := [some (.ref 0), some _, some _, none, none, none, none, none]) ⟨rfl, rfl, rfl, trivial⟩ ?_
          have hfr : frC nt k = zFROM.getD k 0 := if_pos c_28
          have hto : toC nt k = zTO.getD k 0 := if_pos c_28
          have hgo : bf (zFROM.getD k 0) = n0 (zFROM.getD k 0) := hbf _ (by omega)
          refine ih (k + 1) (vp_updL (vp_updL pl (zFROM.getD k 0) (pl (zFROM.getD k 0) - goF (bf (zFROM.getD k 0)) (absL (nt k)))) (zTO.getD k 0) (vp_updL pl (zFROM.getD k 0) (pl (zFROM.getD k 0) - goF (bf (zFROM.getD k 0)) (absL (nt k))) (zTO.getD k 0) + goF (bf (zFROM.getD k 0)) (absL (nt k)))) (by omega) (by omega) (fun q hq => ?_)
          rw [accC_s, ← hp q hq]
          unfold dW
          rw [hfr, hto, if_neg c_79, hgo]
          by_cases e1 : q = zTO.getD k 0
          · rw [e1, pk_uLs, pk_uLn (by omega), if_neg (by omega), if_pos rfl]
          · rw [pk_uLn e1]
            by_cases e2 : q = zFROM.getD k 0
            · rw [e2, pk_uLs, if_pos rfl, Int64.sub_eq_add_neg]
            · rw [pk_uLn e2, if_neg e2, if_neg e1, Int64.add_zero]
set_option maxHeartbeats 4000000 in
set_option maxRecDepth 100000 in
theorem c_X4_blow (rt : Nat → Int32) (pl bf : Nat → Int64) (hm : Int32) (g : Nat → Int64) (nt : Nat → Int64) : ∀ l, ZC l yX4_blow cX4_blow 8 none 1 [.ref 0, .ref 4] (WSt rt pl bf hm g [.inl (1, 24, .inr nt)]) (fun r w' => r = none ∧ ∃ pl1 bf1, w' = WSt rt pl1 bf1 hm g [.inl (1, 24, .inr nt)] ∧ ∀ q, q < 10 → pl1 q = accC pl nt q 24 (pl q)) := by
  intro l
  refine zc_intro (oc := 4) (by decide +kernel) rfl (Nat.le_of_ble_eq_true rfl) ?_
  intro X hX hR
  refine z_norm (ls' := [_, _, _, _, _, _, _, _]) rfl rfl rfl ?_
  refine z_aload_n hX dX4_blow_0 rfl ?_
  refine z_get hX dX4_blow_1 f_4_15 rfl rfl ?_
  refine z_iconst (v := nI 0) hX dX4_blow_4 rfl ?_
  refine z_aload_n hX dX4_blow_5 rfl ?_
  refine z_get hX dX4_blow_6 f_4_19 rfl rfl ?_
  refine z_iconst (v := nI 0) hX dX4_blow_9 rfl ?_
  refine z_bipush (v := nI 9) hX dX4_blow_10 rfl ?_
  refine z_copy9 (w2 := [_, _, _, _, _]) hX dX4_blow_12 (by decide +kernel) (by decide +kernel) (by decide +kernel) (by decide +kernel) (by decide) rfl rfl rfl ?_
  refine z_iconst (v := nI 0) hX dX4_blow_15 rfl ?_
  refine z_istore_n (ls' := [_, _, _, _, _, _, _, _]) hX dX4_blow_16 (Nat.le_of_ble_eq_true rfl) rfl ?_
  exact lp_bl_17 hX hR rt pl pl (va_cpy pl bf 0 0 9) hm g nt (fun q hq => by rw [pk_cpy_in (by omega) (by omega)]; congr 1; omega) (fun pl1 e => ⟨rfl, pl1, _, rfl, e⟩) 25 0 pl (by omega) (by omega) (fun q hq => rfl)
def WLg (nu s0 s1 s2 : Nat → Int64) (gp f : Nat → Int32) (e : ZW) : ZW := .inr (2, [.ref 1, .ref 2, .ref 6, .int (f 0), .int (f 1), .int (f 2), .int (f 3), .int (f 4)]) :: .inl (1, 100, .inr nu) :: .inr (103, [.ref 3, .ref 4, .ref 5]) :: .inl (1, 100, .inr s0) :: .inl (1, 100, .inr s1) :: .inl (1, 100, .inr s2) :: .inl (2, 100, .inl gp) :: e
def slF (lt j : Nat) : Nat := (lt + 100 - j) % 100
theorem slF_lt (lt j : Nat) : slF lt j < 100 := Nat.mod_lt _ (by decide)
theorem slI {a j : Nat} (h : j ≤ 100) : nI a - nI j + nI 100 = nI (a + 100 - j) := by
  have h1 : nI a + nI 100 - nI j = nI (a + 100 - j) := by rw [nI_add, pk_sub (by omega)]
  rw [← h1, Int32.sub_eq_add_neg, Int32.sub_eq_add_neg, Int32.add_assoc, Int32.add_assoc, Int32.add_comm (-nI j)]
set_option maxHeartbeats 4000000 in
set_option maxRecDepth 100000 in
theorem c_X2_slotOf (nu s0 s1 s2 : Nat → Int64) (gp f : Nat → Int32) (lt : Nat) (hlt : lt < 100) (h2 : f 2 = nI lt) (j : Nat) (hj : j ≤ 100) : ∀ l, ZC l yX2_slotOf cX2_slotOf 2 (some .int) 0 [.ref 0, .int (nI j)] (WLg nu s0 s1 s2 gp f []) (fun r w' => w' = WLg nu s0 s1 s2 gp f [] ∧ r = some (.int (nI (slF lt j)))) := by
  intro l
  refine zc_intro (oc := 2) (by decide +kernel) rfl (Nat.le_of_ble_eq_true rfl) ?_
  intro X hX hR
  refine z_norm (ls' := [_, _]) rfl rfl rfl ?_
  refine z_aload_n hX dX2_slotOf_0 rfl ?_
  refine z_get hX dX2_slotOf_1 f_2_31 rfl rfl ?_
  refine z_top h2 ?_
  refine z_iload_n hX dX2_slotOf_4 rfl ?_
  refine z_isub hX dX2_slotOf_5 ?_
  refine z_bipush (v := nI 100) hX dX2_slotOf_6 rfl ?_
  refine z_iadd hX dX2_slotOf_8 ?_
  refine z_top (slI hj) ?_
  refine z_bipush (v := nI 100) hX dX2_slotOf_9 rfl ?_
  first | with_reducible refine z_iremN hX dX2_slotOf_11 (by omega) (by decide) (by decide) ?_ | refine z_irem hX dX2_slotOf_11 (by decide) ?_
  refine z_iret hX hR dX2_slotOf_12 ?_
  exact ⟨rfl, rfl⟩
set_option maxHeartbeats 4000000 in
set_option maxRecDepth 100000 in
theorem c_X2_move (nu s0 s1 s2 : Nat → Int64) (gp f : Nat → Int32) (y : Int32) : ∀ l, ZC l yX2_move cX2_move 3 (some .int) 0 [.ref 0, .int y] (WLg nu s0 s1 s2 gp f []) (fun r w' => r = some (.int (f 1)) ∧ w' = WLg nu s0 s1 s2 gp (va_up (va_up f 0 y) 1 (nI 0)) []) := by
  intro l
  refine zc_intro (oc := 2) (by decide +kernel) rfl (Nat.le_of_ble_eq_true rfl) ?_
  intro X hX hR
  refine z_norm (ls' := [_, _, _]) rfl rfl rfl ?_
  refine z_aload_n hX dX2_move_0 rfl ?_
  refine z_get hX dX2_move_1 f_2_28 rfl rfl ?_
  refine z_istore_n (ls' := [_, _, _]) hX dX2_move_4 (Nat.le_of_ble_eq_true rfl) rfl ?_
  refine z_aload_n hX dX2_move_5 rfl ?_
  refine z_iload_n hX dX2_move_6 rfl ?_
  refine z_puti (fs' := [_, _, _, _, _, _, _, _]) (w' := [_, _, _, _, _, _, _]) hX dX2_move_7 p_2_24 rfl (Nat.le_of_ble_eq_true rfl) rfl rfl ?_
  refine z_aload_n hX dX2_move_10 rfl ?_
  refine z_iconst (v := nI 0) hX dX2_move_11 rfl ?_
  refine z_puti (fs' := [_, _, _, _, _, _, _, _]) (w' := [_, _, _, _, _, _, _]) hX dX2_move_12 p_2_28 rfl (Nat.le_of_ble_eq_true rfl) rfl rfl ?_
  refine z_iload_n hX dX2_move_15 rfl ?_
  refine z_iret hX hR dX2_move_16 ?_
  exact ⟨rfl, rfl⟩
def wiF (gp : Nat → Int32) (lt a n : Nat) : Nat := zfold (fun k t => t + if gp (slF lt (a + k)) = 0 then 1 else 0) n 0
theorem wiF_s (gp : Nat → Int32) (lt a n : Nat) : wiF gp lt a (n + 1) = wiF gp lt a n + if gp (slF lt (a + n)) = 0 then 1 else 0 := rfl
theorem wiF_le (gp : Nat → Int32) (lt a : Nat) : ∀ n, wiF gp lt a n ≤ n
  | 0 => Nat.le_refl 0
  | n + 1 => by
    have := wiF_le gp lt a n
    rw [wiF_s]
    split <;> omega
def siF (nu : Nat → Int64) (gp : Nat → Int32) (lt a n : Nat) : Int64 := zfold (fun k t => t + if gp (slF lt (a + k)) = 0 then nu (slF lt (a + k)) else 0) n 0
theorem siF_s (nu : Nat → Int64) (gp : Nat → Int32) (lt a n : Nat) : siF nu gp lt a (n + 1) = siF nu gp lt a n + if gp (slF lt (a + n)) = 0 then nu (slF lt (a + n)) else 0 := rfl
set_option maxHeartbeats 4000000 in
set_option maxRecDepth 100000 in
theorem lp_wi_5 {X : ZX} {post : Option Value → ZW → Prop} (hX : ZOK X 2 cX2_writtenIn 1) (hR : ZRet X (some .int) post) (nu s0 s1 s2 : Nat → Int64) (gp f : Nat → Int32) (lt : Nat) (hlt : lt < 100) (h2 : f 2 = nI lt) (a N : Nat) (hN : a + N ≤ 100) (hpost : post (some (.int (nI (wiF gp lt a N)))) (WLg nu s0 s1 s2 gp f [])) : ∀ (n k : Nat), k ≤ N → N < k + n → ZG X 5 [some (.ref 0), some (.int (nI a)), some (.int (nI N)), some (.int (nI (wiF gp lt a k))), some (.int (nI (a + k)))] [] (WLg nu s0 s1 s2 gp f []) := by
  intro n
  induction n with
  | zero => intro k z1 z2; omega
  | succ n ih =>
    intro k hk1 hk2
    refine z_iload hX dX2_writtenIn_5 rfl ?_
    refine z_iload_n hX dX2_writtenIn_7 rfl ?_
    refine z_iload_n hX dX2_writtenIn_8 rfl ?_
    first | with_reducible refine z_iaddN hX dX2_writtenIn_9 ?_ | refine z_iadd hX dX2_writtenIn_9 ?_
    first | with_reducible refine z_icmp_geN (tgt := 41) hX dX2_writtenIn_10 (by decide) (by omega) (by omega) (fun c_10 => ?_) (fun c_10 => ?_) | refine z_icmp_ge (tgt := 41) hX dX2_writtenIn_10 (by decide) (fun c_10 => ?_) (fun c_10 => ?_)
    · -- 10 t
      have zk : k = N := by omega
      subst zk
      refine z_iload_n hX dX2_writtenIn_41 rfl ?_
      refine z_iret hX hR dX2_writtenIn_42 ?_
      exact hpost
    · -- 10 f
      have ih2 := ih (k + 1) (by omega) (by omega)
      rw [wiF_s] at ih2
      refine z_iload_n hX dX2_writtenIn_13 rfl ?_
      refine z_aload_n hX dX2_writtenIn_14 rfl ?_
      refine z_get hX dX2_writtenIn_15 f_2_20 rfl rfl ?_
      refine z_aload_n hX dX2_writtenIn_18 rfl ?_
      refine z_iload hX dX2_writtenIn_19 rfl ?_
      refine z_callV0 hX dX2_writtenIn_21 mv_2_55 (c_X2_slotOf nu s0 s1 s2 gp f lt hlt h2 (a + k) (by omega)) (by decide) rfl rfl rfl rfl (Nat.le_of_ble_eq_true rfl) (fun r w1 hp _ => ?_)
      obtain ⟨rfl, rfl⟩ := hp
      have zsl := slF_lt lt (a + k)
      refine z_zald hX dX2_writtenIn_24 rfl (by omega) (by decide) ?_
      refine z_if_eq (tgt := 32) hX dX2_writtenIn_25 (by decide) (fun c_25 => ?_) (fun c_25 => ?_)
      · -- 25 t
        refine z_iconst (v := nI 1) hX dX2_writtenIn_32 rfl ?_
        first | with_reducible refine z_iaddN hX dX2_writtenIn_33 ?_ | refine z_iadd hX dX2_writtenIn_33 ?_
        refine z_istore_n (ls' := [_, _, _, _, _]) hX dX2_writtenIn_34 (Nat.le_of_ble_eq_true rfl) rfl ?_
        first | refine z_iincN (b := 1) (ls' := [_, _, _, _, _]) hX dX2_writtenIn_35 rfl rfl rfl ?_ | refine z_iinc (ls' := [_, _, _, _, _]) hX dX2_writtenIn_35 rfl rfl ?_
        refine z_goto (tgt := 5) hX dX2_writtenIn_38 (by decide) ?_
        rw [if_pos c_25] at ih2
        exact ih2
      · -- 25 f
        refine z_iconst (v := nI 0) hX dX2_writtenIn_28 rfl ?_
        refine z_goto (tgt := 33) hX dX2_writtenIn_29 (by decide) ?_
        first | with_reducible refine z_iaddN hX dX2_writtenIn_33 ?_ | refine z_iadd hX dX2_writtenIn_33 ?_
        refine z_istore_n (ls' := [_, _, _, _, _]) hX dX2_writtenIn_34 (Nat.le_of_ble_eq_true rfl) rfl ?_
        first | refine z_iincN (b := 1) (ls' := [_, _, _, _, _]) hX dX2_writtenIn_35 rfl rfl rfl ?_ | refine z_iinc (ls' := [_, _, _, _, _]) hX dX2_writtenIn_35 rfl rfl ?_
        refine z_goto (tgt := 5) hX dX2_writtenIn_38 (by decide) ?_
        rw [if_neg c_25] at ih2
        exact ih2
set_option maxHeartbeats 4000000 in
set_option maxRecDepth 100000 in
theorem c_X2_writtenIn (nu s0 s1 s2 : Nat → Int64) (gp f : Nat → Int32) (lt : Nat) (hlt : lt < 100) (h2 : f 2 = nI lt) (a N : Nat) (hN : a + N ≤ 100) : ∀ l, ZC l yX2_writtenIn cX2_writtenIn 5 (some .int) 1 [.ref 0, .int (nI a), .int (nI N)] (WLg nu s0 s1 s2 gp f []) (fun r w' => w' = WLg nu s0 s1 s2 gp f [] ∧ r = some (.int (nI (wiF gp lt a N)))) := by
  intro l
  refine zc_intro (oc := 2) (by decide +kernel) rfl (Nat.le_of_ble_eq_true rfl) ?_
  intro X hX hR
  refine z_norm (ls' := [_, _, _, _, _]) rfl rfl rfl ?_
  refine z_iconst (v := nI 0) hX dX2_writtenIn_0 rfl ?_
  refine z_istore_n (ls' := [_, _, _, _, _]) hX dX2_writtenIn_1 (Nat.le_of_ble_eq_true rfl) rfl ?_
  refine z_iload_n hX dX2_writtenIn_2 rfl ?_
  refine z_istore (ls' := [_, _, _, _, _]) hX dX2_writtenIn_3 (Nat.le_of_ble_eq_true rfl) rfl ?_
  exact lp_wi_5 hX hR nu s0 s1 s2 gp f lt hlt h2 a N hN ⟨rfl, rfl⟩ (N + 1) 0 (by omega) (by omega)
set_option maxHeartbeats 4000000 in
set_option maxRecDepth 100000 in
theorem lp_si_5 {X : ZX} {post : Option Value → ZW → Prop} (hX : ZOK X 2 cX2_sumIn 1) (hR : ZRet X (some .long) post) (nu s0 s1 s2 : Nat → Int64) (gp f : Nat → Int32) (lt : Nat) (hlt : lt < 100) (h2 : f 2 = nI lt) (a N : Nat) (hN : a + N ≤ 100) (hpost : post (some (.long (siF nu gp lt a N))) (WLg nu s0 s1 s2 gp f [])) : ∀ (n k : Nat), k ≤ N → N < k + n → ZG X 5 [some (.ref 0), some (.int (nI a)), some (.int (nI N)), some (.long (siF nu gp lt a k)), none, some (.int (nI (a + k))), none] [] (WLg nu s0 s1 s2 gp f []) := by
  intro n
  induction n with
  | zero => intro k z1 z2; omega
  | succ n ih =>
    intro k hk1 hk2
    refine z_iload hX dX2_sumIn_5 rfl ?_
    refine z_iload_n hX dX2_sumIn_7 rfl ?_
    refine z_iload_n hX dX2_sumIn_8 rfl ?_
    first | with_reducible refine z_iaddN hX dX2_sumIn_9 ?_ | refine z_iadd hX dX2_sumIn_9 ?_
    first | with_reducible refine z_icmp_geN (tgt := 51) hX dX2_sumIn_10 (by decide) (by omega) (by omega) (fun c_10 => ?_) (fun c_10 => ?_) | refine z_icmp_ge (tgt := 51) hX dX2_sumIn_10 (by decide) (fun c_10 => ?_) (fun c_10 => ?_)
    · -- 10 t
      have zk : k = N := by omega
      subst zk
      refine z_lload_n hX dX2_sumIn_51 rfl ?_
      refine z_lret hX hR dX2_sumIn_52 ?_
      exact hpost
    · -- 10 f
      have ih2 := ih (k + 1) (by omega) (by omega)
      rw [siF_s] at ih2
      refine z_aload_n hX dX2_sumIn_13 rfl ?_
      refine z_iload hX dX2_sumIn_14 rfl ?_
      refine z_callV0 hX dX2_sumIn_16 mv_2_55 (c_X2_slotOf nu s0 s1 s2 gp f lt hlt h2 (a + k) (by omega)) (by decide) rfl rfl rfl rfl (Nat.le_of_ble_eq_true rfl) (fun r w1 hp _ => ?_)
      obtain ⟨rfl, rfl⟩ := hp
      have zsl := slF_lt lt (a + k)
      refine z_istore (ls' := [_, _, _, _, _, _, _]) hX dX2_sumIn_19 (Nat.le_of_ble_eq_true rfl) rfl ?_
      refine z_lload_n hX dX2_sumIn_21 rfl ?_
      refine z_aload_n hX dX2_sumIn_22 rfl ?_
      refine z_get hX dX2_sumIn_23 f_2_20 rfl rfl ?_
      refine z_iload hX dX2_sumIn_26 rfl ?_
      refine z_zald hX dX2_sumIn_28 rfl (by omega) (by decide) ?_
      refine z_if_eq (tgt := 36) hX dX2_sumIn_29 (by decide) (fun c_29 => ?_) (fun c_29 => ?_)
      · -- 29 t
        refine z_aload_n hX dX2_sumIn_36 rfl ?_
        refine z_get hX dX2_sumIn_37 f_2_9 rfl rfl ?_
        refine z_iload hX dX2_sumIn_40 rfl ?_
        refine z_lald hX dX2_sumIn_42 rfl (by omega) (by decide) ?_
        refine z_ladd hX dX2_sumIn_43 ?_
        refine z_lstore_n (ls' := [_, _, _, _, _, _, _]) hX dX2_sumIn_44 (Nat.le_of_ble_eq_true rfl) rfl ?_
        first | refine z_iincN (b := 1) (ls' := [_, _, _, _, _, _, _]) hX dX2_sumIn_45 rfl rfl rfl ?_ | refine z_iinc (ls' := [_, _, _, _, _, _, _]) hX dX2_sumIn_45 rfl rfl ?_
        refine z_goto (tgt := 5) hX dX2_sumIn_48 (by decide) ?_
        rw [if_pos c_29] at ih2
        refine z_forget (ls' := [some (.ref 0), some _, some _, some _, none, some _, none]) ⟨rfl, rfl, rfl, rfl, rfl, trivial⟩ ih2
      · -- 29 f
        refine z_lconst (v := 0) hX dX2_sumIn_32 rfl ?_
        refine z_goto (tgt := 43) hX dX2_sumIn_33 (by decide) ?_
        refine z_ladd hX dX2_sumIn_43 ?_
        refine z_lstore_n (ls' := [_, _, _, _, _, _, _]) hX dX2_sumIn_44 (Nat.le_of_ble_eq_true rfl) rfl ?_
        first | refine z_iincN (b := 1) (ls' := [_, _, _, _, _, _, _]) hX dX2_sumIn_45 rfl rfl rfl ?_ | refine z_iinc (ls' := [_, _, _, _, _, _, _]) hX dX2_sumIn_45 rfl rfl ?_
        refine z_goto (tgt := 5) hX dX2_sumIn_48 (by decide) ?_
        rw [if_neg c_29] at ih2
        refine z_forget (ls' := [some (.ref 0), some _, some _, some _, none, some _, none]) ⟨rfl, rfl, rfl, rfl, rfl, trivial⟩ ih2
set_option maxHeartbeats 4000000 in
set_option maxRecDepth 100000 in
theorem c_X2_sumIn (nu s0 s1 s2 : Nat → Int64) (gp f : Nat → Int32) (lt : Nat) (hlt : lt < 100) (h2 : f 2 = nI lt) (a N : Nat) (hN : a + N ≤ 100) : ∀ l, ZC l yX2_sumIn cX2_sumIn 7 (some .long) 1 [.ref 0, .int (nI a), .int (nI N)] (WLg nu s0 s1 s2 gp f []) (fun r w' => w' = WLg nu s0 s1 s2 gp f [] ∧ r = some (.long (siF nu gp lt a N))) := by
  intro l
  refine zc_intro (oc := 2) (by decide +kernel) rfl (Nat.le_of_ble_eq_true rfl) ?_
  intro X hX hR
  refine z_norm (ls' := [_, _, _, _, _, _, _]) rfl rfl rfl ?_
  refine z_lconst (v := 0) hX dX2_sumIn_0 rfl ?_
  refine z_lstore_n (ls' := [_, _, _, _, _, _, _]) hX dX2_sumIn_1 (Nat.le_of_ble_eq_true rfl) rfl ?_
  refine z_iload_n hX dX2_sumIn_2 rfl ?_
  refine z_istore (ls' := [_, _, _, _, _, _, _]) hX dX2_sumIn_3 (Nat.le_of_ble_eq_true rfl) rfl ?_
  exact lp_si_5 hX hR nu s0 s1 s2 gp f lt hlt h2 a N hN ⟨rfl, rfl⟩ (N + 1) 0 (by omega) (by omega)
set_option maxHeartbeats 4000000 in
set_option maxRecDepth 100000 in
theorem c_X2_countOfWritten (nu s0 s1 s2 : Nat → Int64) (gp f : Nat → Int32) (lt : Nat) (hlt : lt < 100) (h2 : f 2 = nI lt) (cn : Nat) (hcn : cn ≤ 100) (h1 : f 1 = nI cn) : ∀ l, ZC l yX2_countOfWritten cX2_countOfWritten 1 (some .int) 2 [.ref 0] (WLg nu s0 s1 s2 gp f []) (fun r w' => w' = WLg nu s0 s1 s2 gp f [] ∧ r = some (.int (nI (wiF gp lt 0 cn)))) := by
  intro l
  refine zc_intro (oc := 2) (by decide +kernel) rfl (Nat.le_of_ble_eq_true rfl) ?_
  intro X hX hR
  refine z_norm (ls' := [_]) rfl rfl rfl ?_
  refine z_aload_n hX dX2_countOfWritten_0 rfl ?_
  refine z_iconst (v := nI 0) hX dX2_countOfWritten_1 rfl ?_
  refine z_aload_n hX dX2_countOfWritten_2 rfl ?_
  refine z_get hX dX2_countOfWritten_3 f_2_28 rfl rfl ?_
  refine z_top h1 ?_
  refine z_callV0 hX dX2_countOfWritten_6 mv_2_52 (c_X2_writtenIn nu s0 s1 s2 gp f lt hlt h2 0 cn (by omega)) (by decide) rfl rfl rfl rfl (Nat.le_of_ble_eq_true rfl) (fun r w1 hp _ => ?_)
  obtain ⟨rfl, rfl⟩ := hp
  refine z_iret hX hR dX2_countOfWritten_9 ?_
  exact ⟨rfl, rfl⟩
set_option maxHeartbeats 4000000 in
set_option maxRecDepth 100000 in
theorem c_X2_meanOfWritten (nu s0 s1 s2 : Nat → Int64) (gp f : Nat → Int32) (lt : Nat) (hlt : lt < 100) (h2 : f 2 = nI lt) (cn : Nat) (hcn : cn ≤ 100) (h1 : f 1 = nI cn) : ∀ l, ZC l yX2_meanOfWritten cX2_meanOfWritten 2 (some .long) 3 [.ref 0] (WLg nu s0 s1 s2 gp f []) (fun r w' => w' = WLg nu s0 s1 s2 gp f [] ∧ r = some (.long (if wiF gp lt 0 cn = 0 then -4 else siF nu gp lt 0 cn / lN (wiF gp lt 0 cn)))) := by
  intro l
  refine zc_intro (oc := 2) (by decide +kernel) rfl (Nat.le_of_ble_eq_true rfl) ?_
  intro X hX hR
  refine z_norm (ls' := [_, _]) rfl rfl rfl ?_
  refine z_aload_n hX dX2_meanOfWritten_0 rfl ?_
  refine z_callV0 hX dX2_meanOfWritten_1 mv_2_59 (c_X2_countOfWritten nu s0 s1 s2 gp f lt hlt h2 cn hcn h1) (by decide) rfl rfl rfl rfl (Nat.le_of_ble_eq_true rfl) (fun r w1 hp _ => ?_)
  obtain ⟨rfl, rfl⟩ := hp
  have hwi := wiF_le gp lt 0 cn
  refine z_istore_n (ls' := [_, _]) hX dX2_meanOfWritten_4 (Nat.le_of_ble_eq_true rfl) rfl ?_
  refine z_iload_n hX dX2_meanOfWritten_5 rfl ?_
  refine z_if_ne (tgt := 15) hX dX2_meanOfWritten_6 (by decide) (fun c_6 => ?_) (fun c_6 => ?_)
  · -- 6 t
    have c_6 : ¬ wiF gp lt 0 cn = 0 := fun q => c_6 (by rw [q]; rfl)
    refine z_aload_n hX dX2_meanOfWritten_15 rfl ?_
    refine z_iconst (v := nI 0) hX dX2_meanOfWritten_16 rfl ?_
    refine z_aload_n hX dX2_meanOfWritten_17 rfl ?_
    refine z_get hX dX2_meanOfWritten_18 f_2_28 rfl rfl ?_
    refine z_top h1 ?_
    refine z_callV0 hX dX2_meanOfWritten_21 mv_2_65 (c_X2_sumIn nu s0 s1 s2 gp f lt hlt h2 0 cn (by omega)) (by decide) rfl rfl rfl rfl (Nat.le_of_ble_eq_true rfl) (fun r w1 hp _ => ?_)
    obtain ⟨rfl, rfl⟩ := hp
    refine z_iload_n hX dX2_meanOfWritten_24 rfl ?_
    first | with_reducible refine z_i2lN hX dX2_meanOfWritten_25 (by omega) ?_ | refine z_i2l hX dX2_meanOfWritten_25 ?_
    refine z_ldiv hX dX2_meanOfWritten_26 (lN_ne c_6 (by omega)) ?_
    refine z_lret hX hR dX2_meanOfWritten_27 ?_
    exact ⟨rfl, by rw [if_neg c_6]⟩
  · -- 6 f
    have c_6 : wiF gp lt 0 cn = 0 := (nI_eq (by omega) (by omega)).mp c_6
    refine z_ldc2 hX dX2_meanOfWritten_9 k_2_63 ?_
    refine z_goto (tgt := 27) hX dX2_meanOfWritten_12 (by decide) ?_
    refine z_lret hX hR dX2_meanOfWritten_27 ?_
    exact ⟨rfl, by rw [if_pos c_6]⟩
