/-! differs, witness, out, state, count. -/
/-- the k-th thing that differs -/
def dfF (ff : Nat → Int32) (gA gB nA nB : Nat → Nat) (x oA oB lc k : Nat) : Int32 :=
  if k < cdF ff gA gB (min oA oB) then pdF ff gA gB (min oA oB) 0 k
  else if k - cdF ff gA gB (min oA oB) < cdF ff nA nB lc then nI 100 + pdF ff nA nB lc 0 (k - cdF ff gA gB (min oA oB))
  else dsF x oA oB lc 0 (k - cdF ff gA gB (min oA oB) - cdF ff nA nB lc)
set_option maxRecDepth 100000 in
theorem inX_X2_count_io : ∀ w ∈ (vx_atS RX2 124 "java/lang/IndexOutOfBoundsException" xN).filter goodWord, w ∈ wsX2_count := by decide +kernel
set_option maxRecDepth 100000 in
theorem inX_X2_differs_io : ∀ w ∈ (vx_atS RX2 124 "java/lang/IndexOutOfBoundsException" xN).filter goodWord, w ∈ wsX2_differs := by decide +kernel
set_option maxRecDepth 100000 in
theorem inX_X2_out_io : ∀ w ∈ (vx_atS RX2 124 "java/lang/IndexOutOfBoundsException" xN).filter goodWord, w ∈ wsX2_out := by decide +kernel
set_option maxRecDepth 100000 in
theorem inX_X2_witness_io : ∀ w ∈ (vx_atS RX2 124 "java/lang/IndexOutOfBoundsException" xN).filter goodWord, w ∈ wsX2_witness := by decide +kernel
section XA
variable (l : Launch) (D : va_G) (cI cJ : ClassId) (tp : Nat) (h hn ow fi ma ro ha oa na sa he ob nb sb : Nat) (ic lc stp : Nat) (ap : Int32) (cnt len : Nat) (fo ff : Nat → Int32) (fk fr : Nat → Int64) (oA cA rA tA : Nat) (gA nA : Nat → Nat) (sA : Nat → Int32) (oB cB rB tB : Nat) (gB nB : Nat → Nat) (sB : Nat → Int32)
set_option maxHeartbeats 4000000 in
set_option maxRecDepth 100000 in
/-- differs -/
theorem c_X2_differs (k : Nat) (hk : k < 2 ^ 31) (hr1 : rA < 16) (hr2 : rB < 16) (ho1 : oA ≤ 16) (ho2 : oB ≤ 16) (hgO : ∀ j, j < min oA oB → gA j < 2 * cnt ∧ gB j < 2 * cnt) (hgN : ∀ j, j < lc → nA j < 2 * cnt ∧ nB j < 2 * cnt) (hlc : lc ≤ 4) (hc : cnt ≤ 400) : Met l yX2_differs wsX2_differs { frames := 3, cells := 0, slots := 0, locals := 69 } (re_P D [(cI, .int), (cJ, .long)] (xW h hn ow fi ma ro ha oa na sa he ob nb sb cI cJ ic lc stp ap cnt len fo ff fk fr oA cA rA tA gA nA sA oB cB rB tB gB nB sB) tp [.ref h, .int (nI k)]) (k2_QcV (.int (dfF ff gA gB nA nB (rA ^^^ rB) oA oB lc k))) 0 0 (fun _ => False) := by
  refine Met.ofW (cc := cX2_differs) (maxL := 5) (ret := (some .int)) (by decide) rfl ?_
  intro p e s m args below meth c s₁ B hml hv
  obtain ⟨rfl, ⟨hP, hK⟩, hE⟩ := hv
  have hx := B.exec
  have hb := B.bytes
  have hr := B.returns
  have hts := atoms_spec (ws := wsX2_differs) B.pre
  have hown : s.vm.findClass RX2 = some m.cls := findClass_of_methodNamed B.named
  have hlocks := B.notSynchronized
  have hl := lv_entry ([.ref h, .int (nI k)]) (n := 5) (Nat.le_of_ble_eq_true rfl)
  rw [lg_entry_eq]
  generalize (lg_sl ([.ref h, .int (nI k)]) ++ List.replicate (5 - (lg_sl ([.ref h, .int (nI k)])).length) Slot.unset).toArray = ls at hl ⊢
  have hl : lv_has ls 5 [(0, .ref h), (1, .int (nI k))] := hl
  have hP : va_P D vwCl [(h, .inr (2, [.ref hn, .ref ha, .ref he, .int (nI ic), .int (nI lc), .int (nI stp), .int ap])), (hn, .inr (1, [.int (nI cnt), .ref ow, .ref fi, .ref ma, .ref ro])), (ow, .inl (cI, 400, .inl fo)), (fi, .inl (cI, 400, .inl ff)), (ma, .inl (cJ, 400, .inr (.inl fk))), (ro, .inl (cJ, len, .inr (.inl fr))), (ha, .inr (0, [.ref oa, .ref na, .ref sa, .int (nI oA), .int (nI cA), .int (nI rA), .int (nI tA)])), (oa, .inl (cI, 16, .inl (fun j => nI (gA j)))), (na, .inl (cI, 4, .inl (fun j => nI (nA j)))), (sa, .inl (cI, 16, .inl sA)), (he, .inr (0, [.ref ob, .ref nb, .ref sb, .int (nI oB), .int (nI cB), .int (nI rB), .int (nI tB)])), (ob, .inl (cI, 16, .inl (fun j => nI (gB j)))), (nb, .inl (cI, 4, .inl (fun j => nI (nB j)))), (sb, .inl (cI, 16, .inl sB))] s.heap := hP
  have hin0 : ∀ w ∈ wsX00, w ∈ wsX2_differs := by decide +kernel
  have hin2 : ∀ w ∈ wsX20, w ∈ wsX2_differs := by decide +kernel
  have kf19 := hts (.fieldLink RX2 19 "SweepEqual" "designA" "LSweepEqual$Design;") (by decide +kernel)
  have kf128 := hts (.fieldLink RX2 128 "SweepEqual$Design" "outputs" "[I") (by decide +kernel)
  have kf23 := hts (.fieldLink RX2 23 "SweepEqual" "designB" "LSweepEqual$Design;") (by decide +kernel)
  have kf92 := hts (.fieldLink RX2 92 "SweepEqual$Design" "nexts" "[I") (by decide +kernel)
  have kf47 := hts (.fieldLink RX2 47 "SweepEqual" "latchCount" "I") (by decide +kernel)
  refine lv_iload_n hx hb dX2_differs_0 rfl (lv_at hl 1 rfl) ?_
  refine lv_if_ge (tgt := 14) hx hb dX2_differs_1 (by decide) (fun c0 => ?_) (fun c0 => ?_)
  · have hm16 : min oA oB ≤ 16 := by omega
    have hcd := cdF_le ff gA gB (min oA oB)
    have hcd2 := cdF_le ff nA nB lc
    refine lv_aload_n hx hb dX2_differs_14 rfl (lv_at hl 0 rfl) ?_
    refine rd_V (As := []) (rest := []) ⟨hx, hb, hml, hown, hts⟩ (c_X2_sharedOutputs l D cI cJ tp h hn ow fi ma ro ha oa na sa he ob nb sb ic lc stp ap cnt len fo ff fk fr oA cA rA tA gA nA sA oB cB rB tB gB nB sB ho1 ho2) (cwV 0 hts gX2_differs_X2_sharedOutputs rfl rfl rfl (by decide +kernel) ⟨Nat.le_of_ble_eq_true rfl, Nat.le_of_ble_eq_true rfl⟩) (re_pv (ci := 2) (q0 := 0) hK hP hE rfl rfl) rfl hl.1 rfl (Nat.le_of_ble_eq_true rfl) dX2_differs_15 ⟨Nat.zero_le _, Nat.zero_le _⟩ ?_
    refine lv_istore_n (lv' := [(2, .int (nI (min oA oB))), (0, .ref h), (1, .int (nI k))]) hx hb dX2_differs_18 rfl hl (by decide) rfl (fun ls hl => ?_)
    refine lv_aload_n hx hb dX2_differs_19 rfl (lv_at hl 1 rfl) ?_
    refine lv_aload_n hx hb dX2_differs_20 rfl (lv_at hl 1 rfl) ?_
    refine va_get (D := D) (ci := 2) (v := .ref ha) (C := RX2) (T := TX2) (N := 7) hx hb hts hin2 hown hK hP 0 rfl rfl 1 (by decide) kf19 (fun _ h9 => h9) rfl dX2_differs_21 ?_
    refine va_get (D := D) (ci := 0) (v := .ref oa) (C := RX0) (T := TX0) (N := 7) hx hb hts hin0 hown hK hP 6 rfl rfl 0 (by decide) kf128 (fun _ h9 => h9) rfl dX2_differs_24 ?_
    refine lv_aload_n hx hb dX2_differs_27 rfl (lv_at hl 1 rfl) ?_
    refine va_get (D := D) (ci := 2) (v := .ref he) (C := RX2) (T := TX2) (N := 7) hx hb hts hin2 hown hK hP 0 rfl rfl 2 (by decide) kf23 (fun _ h9 => h9) rfl dX2_differs_28 ?_
    refine va_get (D := D) (ci := 0) (v := .ref ob) (C := RX0) (T := TX0) (N := 7) hx hb hts hin0 hown hK hP 10 rfl rfl 0 (by decide) kf128 (fun _ h9 => h9) rfl dX2_differs_31 ?_
    refine lv_iload_n hx hb dX2_differs_34 rfl (lv_at hl 0 rfl) ?_
    refine rd_V (As := [.ref oa, .ref ob, .int (nI (min oA oB))]) (rest := []) ⟨hx, hb, hml, hown, hts⟩ (c_X2_countDifferentO l D cI cJ tp h hn ow fi ma ro ha oa na sa he ob nb sb ic lc stp ap cnt len fo ff fk fr oA cA rA tA gA nA sA oB cB rB tB gB nB sB (min oA oB) hm16 hgO hc) (cwV 3 hts gX2_differs_X2_countDifferent rfl rfl rfl (by decide +kernel) ⟨Nat.le_of_ble_eq_true rfl, Nat.le_of_ble_eq_true rfl⟩) (re_pv (ci := 2) (q0 := 0) hK hP hE rfl rfl) rfl hl.1 rfl (Nat.le_of_ble_eq_true rfl) dX2_differs_35 ⟨Nat.zero_le _, Nat.zero_le _⟩ ?_
    refine lv_istore_n (lv' := [(3, .int (nI (cdF ff gA gB (min oA oB)))), (2, .int (nI (min oA oB))), (0, .ref h), (1, .int (nI k))]) hx hb dX2_differs_38 rfl hl (by decide) rfl (fun ls hl => ?_)
    refine lv_iload_n hx hb dX2_differs_39 rfl (lv_at hl 3 rfl) ?_
    refine lv_iload_n hx hb dX2_differs_40 rfl (lv_at hl 0 rfl) ?_
    refine lv_icmp_ge (tgt := 65) hx hb dX2_differs_41 (by decide) (fun c1 => ?_) (fun c1 => ?_)
    · have c1 : cdF ff gA gB (min oA oB) ≤ k := (nI_leI (by omega) (by omega)).mp c1
      refine lv_iload_n hx hb dX2_differs_65 rfl (lv_at hl 3 rfl) ?_
      refine lv_iload_n hx hb dX2_differs_66 rfl (lv_at hl 0 rfl) ?_
      refine lv_isub hx hb dX2_differs_67 ?_
      refine tp_i (show (nI k) - (nI (cdF ff gA gB (min oA oB))) = nI (k - (cdF ff gA gB (min oA oB))) from pk_sub (by omega)) ?_
      refine lv_istore (lv' := [(4, .int (nI (k - (cdF ff gA gB (min oA oB))))), (3, .int (nI (cdF ff gA gB (min oA oB)))), (2, .int (nI (min oA oB))), (0, .ref h), (1, .int (nI k))]) hx hb dX2_differs_68 hl (by decide) rfl (fun ls hl => ?_)
      refine lv_aload_n hx hb dX2_differs_70 rfl (lv_at hl 3 rfl) ?_
      refine lv_aload_n hx hb dX2_differs_71 rfl (lv_at hl 3 rfl) ?_
      refine va_get (D := D) (ci := 2) (v := .ref ha) (C := RX2) (T := TX2) (N := 7) hx hb hts hin2 hown hK hP 0 rfl rfl 1 (by decide) kf19 (fun _ h9 => h9) rfl dX2_differs_72 ?_
      refine va_get (D := D) (ci := 0) (v := .ref na) (C := RX0) (T := TX0) (N := 7) hx hb hts hin0 hown hK hP 6 rfl rfl 1 (by decide) kf92 (fun _ h9 => h9) rfl dX2_differs_75 ?_
      refine lv_aload_n hx hb dX2_differs_78 rfl (lv_at hl 3 rfl) ?_
      refine va_get (D := D) (ci := 2) (v := .ref he) (C := RX2) (T := TX2) (N := 7) hx hb hts hin2 hown hK hP 0 rfl rfl 2 (by decide) kf23 (fun _ h9 => h9) rfl dX2_differs_79 ?_
      refine va_get (D := D) (ci := 0) (v := .ref nb) (C := RX0) (T := TX0) (N := 7) hx hb hts hin0 hown hK hP 10 rfl rfl 1 (by decide) kf92 (fun _ h9 => h9) rfl dX2_differs_82 ?_
      refine lv_aload_n hx hb dX2_differs_85 rfl (lv_at hl 3 rfl) ?_
      refine va_get (D := D) (ci := 2) (v := .int (nI lc)) (C := RX2) (T := TX2) (N := 7) hx hb hts hin2 hown hK hP 0 rfl rfl 4 (by decide) kf47 (fun _ h9 => h9) rfl dX2_differs_86 ?_
      refine rd_V (As := [.ref na, .ref nb, .int (nI lc)]) (rest := []) ⟨hx, hb, hml, hown, hts⟩ (c_X2_countDifferentN l D cI cJ tp h hn ow fi ma ro ha oa na sa he ob nb sb ic lc stp ap cnt len fo ff fk fr oA cA rA tA gA nA sA oB cB rB tB gB nB sB lc hlc hgN hc) (cwV 3 hts gX2_differs_X2_countDifferent rfl rfl rfl (by decide +kernel) ⟨Nat.le_of_ble_eq_true rfl, Nat.le_of_ble_eq_true rfl⟩) (re_pv (ci := 2) (q0 := 0) hK hP hE rfl rfl) rfl hl.1 rfl (Nat.le_of_ble_eq_true rfl) dX2_differs_89 ⟨Nat.zero_le _, Nat.zero_le _⟩ ?_
      refine lv_istore_n (lv' := [(3, .int (nI (cdF ff nA nB lc))), (4, .int (nI (k - (cdF ff gA gB (min oA oB))))), (2, .int (nI (min oA oB))), (0, .ref h), (1, .int (nI k))]) hx hb dX2_differs_92 rfl hl (by decide) rfl (fun ls hl => ?_)
      refine lv_iload hx hb dX2_differs_93 (lv_at hl 1 rfl) ?_
      refine lv_iload_n hx hb dX2_differs_95 rfl (lv_at hl 0 rfl) ?_
      refine lv_icmp_ge (tgt := 127) hx hb dX2_differs_96 (by decide) (fun c2 => ?_) (fun c2 => ?_)
      · have c2 : cdF ff nA nB lc ≤ k - (cdF ff gA gB (min oA oB)) := (nI_leI (by omega) (by omega)).mp c2
        refine lv_aload_n hx hb dX2_differs_127 rfl (lv_at hl 3 rfl) ?_
        refine lv_iload hx hb dX2_differs_128 (lv_at hl 1 rfl) ?_
        refine lv_iload_n hx hb dX2_differs_130 rfl (lv_at hl 0 rfl) ?_
        refine lv_isub hx hb dX2_differs_131 ?_
        refine tp_i (show (nI (k - (cdF ff gA gB (min oA oB)))) - (nI (cdF ff nA nB lc)) = nI (k - (cdF ff gA gB (min oA oB)) - (cdF ff nA nB lc)) from pk_sub (by omega)) ?_
        refine rd_V (As := [.int (nI (k - (cdF ff gA gB (min oA oB)) - (cdF ff nA nB lc)))]) (rest := []) ⟨hx, hb, hml, hown, hts⟩ (c_X2_differentStartOrSize l D cI cJ tp h hn ow fi ma ro ha oa na sa he ob nb sb ic lc stp ap cnt len fo ff fk fr oA cA rA tA gA nA sA oB cB rB tB gB nB sB (k - cdF ff gA gB (min oA oB) - cdF ff nA nB lc) (by omega) hr1 hr2 hlc ho1 ho2) (cwV 1 hts gX2_differs_X2_differentStartOrSize rfl rfl rfl (by decide +kernel) ⟨Nat.le_of_ble_eq_true rfl, Nat.le_of_ble_eq_true rfl⟩) (re_pv (ci := 2) (q0 := 0) hK hP hE rfl rfl) rfl hl.1 rfl (Nat.le_of_ble_eq_true rfl) dX2_differs_132 ⟨Nat.zero_le _, Nat.zero_le _⟩ ?_
        exact rd_i hx hb hr hlocks dX2_differs_135 (by unfold dfF; rw [if_neg (by omega), if_neg (by omega)])
      · have c2 : ¬ (cdF ff nA nB lc ≤ k - (cdF ff gA gB (min oA oB))) := fun h => c2 ((nI_leI (by omega) (by omega)).mpr h)
        refine lv_bipush (v := nI 100) hx hb dX2_differs_99 (by decide) ?_
        refine lv_aload_n hx hb dX2_differs_101 rfl (lv_at hl 3 rfl) ?_
        refine lv_aload_n hx hb dX2_differs_102 rfl (lv_at hl 3 rfl) ?_
        refine va_get (D := D) (ci := 2) (v := .ref ha) (C := RX2) (T := TX2) (N := 7) hx hb hts hin2 hown hK hP 0 rfl rfl 1 (by decide) kf19 (fun _ h9 => h9) rfl dX2_differs_103 ?_
        refine va_get (D := D) (ci := 0) (v := .ref na) (C := RX0) (T := TX0) (N := 7) hx hb hts hin0 hown hK hP 6 rfl rfl 1 (by decide) kf92 (fun _ h9 => h9) rfl dX2_differs_106 ?_
        refine lv_aload_n hx hb dX2_differs_109 rfl (lv_at hl 3 rfl) ?_
        refine va_get (D := D) (ci := 2) (v := .ref he) (C := RX2) (T := TX2) (N := 7) hx hb hts hin2 hown hK hP 0 rfl rfl 2 (by decide) kf23 (fun _ h9 => h9) rfl dX2_differs_110 ?_
        refine va_get (D := D) (ci := 0) (v := .ref nb) (C := RX0) (T := TX0) (N := 7) hx hb hts hin0 hown hK hP 10 rfl rfl 1 (by decide) kf92 (fun _ h9 => h9) rfl dX2_differs_113 ?_
        refine lv_aload_n hx hb dX2_differs_116 rfl (lv_at hl 3 rfl) ?_
        refine va_get (D := D) (ci := 2) (v := .int (nI lc)) (C := RX2) (T := TX2) (N := 7) hx hb hts hin2 hown hK hP 0 rfl rfl 4 (by decide) kf47 (fun _ h9 => h9) rfl dX2_differs_117 ?_
        refine lv_iload hx hb dX2_differs_120 (lv_at hl 1 rfl) ?_
        refine rd_V (As := [.ref na, .ref nb, .int (nI lc), .int (nI (k - (cdF ff gA gB (min oA oB))))]) (rest := [.int (nI 100)]) ⟨hx, hb, hml, hown, hts⟩ (c_X2_placeOfDifferentN l D cI cJ tp h hn ow fi ma ro ha oa na sa he ob nb sb ic lc stp ap cnt len fo ff fk fr oA cA rA tA gA nA sA oB cB rB tB gB nB sB lc hlc hgN hc (k - cdF ff gA gB (min oA oB)) (by omega)) (cwV 4 hts gX2_differs_X2_placeOfDifferent rfl rfl rfl (by decide +kernel) ⟨Nat.le_of_ble_eq_true rfl, Nat.le_of_ble_eq_true rfl⟩) (re_pv (ci := 2) (q0 := 0) hK hP hE rfl rfl) rfl hl.1 rfl (Nat.le_of_ble_eq_true rfl) dX2_differs_122 ⟨Nat.zero_le _, Nat.zero_le _⟩ ?_
        refine lv_iadd hx hb dX2_differs_125 ?_
        exact rd_i hx hb hr hlocks dX2_differs_126 (by unfold dfF; rw [if_neg (by omega), if_pos (by omega)])
    · have c1 : ¬ (cdF ff gA gB (min oA oB) ≤ k) := fun h => c1 ((nI_leI (by omega) (by omega)).mpr h)
      refine lv_aload_n hx hb dX2_differs_44 rfl (lv_at hl 2 rfl) ?_
      refine lv_aload_n hx hb dX2_differs_45 rfl (lv_at hl 2 rfl) ?_
      refine va_get (D := D) (ci := 2) (v := .ref ha) (C := RX2) (T := TX2) (N := 7) hx hb hts hin2 hown hK hP 0 rfl rfl 1 (by decide) kf19 (fun _ h9 => h9) rfl dX2_differs_46 ?_
      refine va_get (D := D) (ci := 0) (v := .ref oa) (C := RX0) (T := TX0) (N := 7) hx hb hts hin0 hown hK hP 6 rfl rfl 0 (by decide) kf128 (fun _ h9 => h9) rfl dX2_differs_49 ?_
      refine lv_aload_n hx hb dX2_differs_52 rfl (lv_at hl 2 rfl) ?_
      refine va_get (D := D) (ci := 2) (v := .ref he) (C := RX2) (T := TX2) (N := 7) hx hb hts hin2 hown hK hP 0 rfl rfl 2 (by decide) kf23 (fun _ h9 => h9) rfl dX2_differs_53 ?_
      refine va_get (D := D) (ci := 0) (v := .ref ob) (C := RX0) (T := TX0) (N := 7) hx hb hts hin0 hown hK hP 10 rfl rfl 0 (by decide) kf128 (fun _ h9 => h9) rfl dX2_differs_56 ?_
      refine lv_iload_n hx hb dX2_differs_59 rfl (lv_at hl 1 rfl) ?_
      refine lv_iload_n hx hb dX2_differs_60 rfl (lv_at hl 3 rfl) ?_
      refine rd_V (As := [.ref oa, .ref ob, .int (nI (min oA oB)), .int (nI k)]) (rest := []) ⟨hx, hb, hml, hown, hts⟩ (c_X2_placeOfDifferentO l D cI cJ tp h hn ow fi ma ro ha oa na sa he ob nb sb ic lc stp ap cnt len fo ff fk fr oA cA rA tA gA nA sA oB cB rB tB gB nB sB (min oA oB) hm16 hgO hc k hk) (cwV 4 hts gX2_differs_X2_placeOfDifferent rfl rfl rfl (by decide +kernel) ⟨Nat.le_of_ble_eq_true rfl, Nat.le_of_ble_eq_true rfl⟩) (re_pv (ci := 2) (q0 := 0) hK hP hE rfl rfl) rfl hl.1 rfl (Nat.le_of_ble_eq_true rfl) dX2_differs_61 ⟨Nat.zero_le _, Nat.zero_le _⟩ ?_
      exact rd_i hx hb hr hlocks dX2_differs_64 (by unfold dfF; rw [if_pos (by omega)])
  · exact absurd (nI_pos' hk) c0
set_option maxHeartbeats 4000000 in
set_option maxRecDepth 100000 in
/-- differs: k is below 0 -/
theorem t_X2_differs1 (hl9 : l.stackTraces = false) (x : Int32) (hx9 : x < 0) : TH l yX2_differs wsX2_differs { frames := 6, cells := 1, slots := 6, locals := 82 } (re_P D [(cI, .int), (cJ, .long)] (xW h hn ow fi ma ro ha oa na sa he ob nb sb cI cJ ic lc stp ap cnt len fo ff fk fr oA cA rA tA gA nA sA oB cB rB tB gB nB sB) tp [.ref h, .int x]) "java/lang/IndexOutOfBoundsException" := by
  refine vx_ofW (cc := cX2_differs) (maxL := 5) (ret := (some .int)) (by decide) rfl ?_
  intro p e s m args below meth c s₁ B hml hno hv
  obtain ⟨rfl, ⟨hP, hK⟩, hE⟩ := hv
  have hx := B.exec
  have hb := B.bytes
  have hr := B.returns
  have hts := atoms_spec (ws := wsX2_differs) B.pre
  have hown : s.vm.findClass RX2 = some m.cls := findClass_of_methodNamed B.named
  have hlocks := B.notSynchronized
  have hl := lv_entry ([.ref h, .int x]) (n := 5) (Nat.le_of_ble_eq_true rfl)
  rw [lg_entry_eq]
  generalize (lg_sl ([.ref h, .int x]) ++ List.replicate (5 - (lg_sl ([.ref h, .int x])).length) Slot.unset).toArray = ls at hl ⊢
  have hl : lv_has ls 5 [(0, .ref h), (1, .int x)] := hl
  have hP : va_P D vwCl [(h, .inr (2, [.ref hn, .ref ha, .ref he, .int (nI ic), .int (nI lc), .int (nI stp), .int ap])), (hn, .inr (1, [.int (nI cnt), .ref ow, .ref fi, .ref ma, .ref ro])), (ow, .inl (cI, 400, .inl fo)), (fi, .inl (cI, 400, .inl ff)), (ma, .inl (cJ, 400, .inr (.inl fk))), (ro, .inl (cJ, len, .inr (.inl fr))), (ha, .inr (0, [.ref oa, .ref na, .ref sa, .int (nI oA), .int (nI cA), .int (nI rA), .int (nI tA)])), (oa, .inl (cI, 16, .inl (fun j => nI (gA j)))), (na, .inl (cI, 4, .inl (fun j => nI (nA j)))), (sa, .inl (cI, 16, .inl sA)), (he, .inr (0, [.ref ob, .ref nb, .ref sb, .int (nI oB), .int (nI cB), .int (nI rB), .int (nI tB)])), (ob, .inl (cI, 16, .inl (fun j => nI (gB j)))), (nb, .inl (cI, 4, .inl (fun j => nI (nB j)))), (sb, .inl (cI, 16, .inl sB))] s.heap := hP
  have hin0 : ∀ w ∈ wsX00, w ∈ wsX2_differs := by decide +kernel
  have hin2 : ∀ w ∈ wsX20, w ∈ wsX2_differs := by decide +kernel
  have kf19 := hts (.fieldLink RX2 19 "SweepEqual" "designA" "LSweepEqual$Design;") (by decide +kernel)
  have kf128 := hts (.fieldLink RX2 128 "SweepEqual$Design" "outputs" "[I") (by decide +kernel)
  have kf23 := hts (.fieldLink RX2 23 "SweepEqual" "designB" "LSweepEqual$Design;") (by decide +kernel)
  have kf92 := hts (.fieldLink RX2 92 "SweepEqual$Design" "nexts" "[I") (by decide +kernel)
  have kf47 := hts (.fieldLink RX2 47 "SweepEqual" "latchCount" "I") (by decide +kernel)
  have hgw_io : ∀ w ∈ (vx_atS RX2 124 "java/lang/IndexOutOfBoundsException" xN).filter goodWord, w.before ([.ref h, .int x] : List Value).toArray s = true := fun w hw => hts w (inX_X2_differs_io w hw)
  refine lv_iload_n hx hb dX2_differs_0 rfl (lv_at hl 1 rfl) ?_
  refine lv_if_ge (tgt := 14) hx hb dX2_differs_1 (by decide) (fun c0 => ?_) (fun c0 => ?_)
  · exact absurd c0 (Int32.not_le.mpr hx9)
  · exact th_S (cls := "java/lang/IndexOutOfBoundsException") (text := "k is below 0") hx hb hl9 hown (by decide +kernel) (hts (.classLink RX2 120 "java/lang/IndexOutOfBoundsException") (by decide +kernel)) (hts (.initialized "java/lang/IndexOutOfBoundsException") (by decide +kernel)) hgw_io hng_io hgd_io hE (by decide) (by decide) (by rw [hml]; exact hl.1) dX2_differs_4 dX2_differs_7 dX2_differs_8 dX2_differs_10 dX2_differs_13 hno (Nat.le_of_ble_eq_true rfl) (Nat.le_of_ble_eq_true rfl) (Nat.le_of_ble_eq_true rfl) (Nat.le_of_ble_eq_true rfl) hlocks
set_option maxHeartbeats 4000000 in
set_option maxRecDepth 100000 in
/-- witness of an output -/
theorem c_X2_witnessO (t : Nat) (ht : t < min oA oB) (ho1 : oA ≤ 16) (ho2 : oB ≤ 16) (hgO : ∀ j, j < min oA oB → gA j < 2 * cnt ∧ gB j < 2 * cnt) (hgN : ∀ j, j < lc → nA j < 2 * cnt ∧ nB j < 2 * cnt) (hlc : lc ≤ 4) (hc : cnt ≤ 400) (hl1 : cnt * 64 ≤ len) (hl2 : len ≤ 25600) : Met l yX2_witness wsX2_witness { frames := 3, cells := 0, slots := 0, locals := 68 } (re_P D [(cI, .int), (cJ, .long)] (xW h hn ow fi ma ro ha oa na sa he ob nb sb cI cJ ic lc stp ap cnt len fo ff fk fr oA cA rA tA gA nA sA oB cB rB tB gB nB sB) tp [.ref h, .int (nI t)]) (k2_QcV (.int (ldF fr (gA t) (gB t) 64 0))) 0 0 (fun _ => False) := by
  refine Met.ofW (cc := cX2_witness) (maxL := 3) (ret := (some .int)) (by decide) rfl ?_
  intro p e s m args below meth c s₁ B hml hv
  obtain ⟨rfl, ⟨hP, hK⟩, hE⟩ := hv
  have hx := B.exec
  have hb := B.bytes
  have hr := B.returns
  have hts := atoms_spec (ws := wsX2_witness) B.pre
  have hown : s.vm.findClass RX2 = some m.cls := findClass_of_methodNamed B.named
  have hlocks := B.notSynchronized
  have hl := lv_entry ([.ref h, .int (nI t)]) (n := 3) (Nat.le_of_ble_eq_true rfl)
  rw [lg_entry_eq]
  generalize (lg_sl ([.ref h, .int (nI t)]) ++ List.replicate (3 - (lg_sl ([.ref h, .int (nI t)])).length) Slot.unset).toArray = ls at hl ⊢
  have hl : lv_has ls 3 [(0, .ref h), (1, .int (nI t))] := hl
  have hP : va_P D vwCl [(h, .inr (2, [.ref hn, .ref ha, .ref he, .int (nI ic), .int (nI lc), .int (nI stp), .int ap])), (hn, .inr (1, [.int (nI cnt), .ref ow, .ref fi, .ref ma, .ref ro])), (ow, .inl (cI, 400, .inl fo)), (fi, .inl (cI, 400, .inl ff)), (ma, .inl (cJ, 400, .inr (.inl fk))), (ro, .inl (cJ, len, .inr (.inl fr))), (ha, .inr (0, [.ref oa, .ref na, .ref sa, .int (nI oA), .int (nI cA), .int (nI rA), .int (nI tA)])), (oa, .inl (cI, 16, .inl (fun j => nI (gA j)))), (na, .inl (cI, 4, .inl (fun j => nI (nA j)))), (sa, .inl (cI, 16, .inl sA)), (he, .inr (0, [.ref ob, .ref nb, .ref sb, .int (nI oB), .int (nI cB), .int (nI rB), .int (nI tB)])), (ob, .inl (cI, 16, .inl (fun j => nI (gB j)))), (nb, .inl (cI, 4, .inl (fun j => nI (nB j)))), (sb, .inl (cI, 16, .inl sB))] s.heap := hP
  have hin0 : ∀ w ∈ wsX00, w ∈ wsX2_witness := by decide +kernel
  have hin2 : ∀ w ∈ wsX20, w ∈ wsX2_witness := by decide +kernel
  have kf12 := hts (.fieldLink RX2 12 "SweepEqual" "nodes" "LSweepEqual$Nodes;") (by decide +kernel)
  have kf19 := hts (.fieldLink RX2 19 "SweepEqual" "designA" "LSweepEqual$Design;") (by decide +kernel)
  have kf128 := hts (.fieldLink RX2 128 "SweepEqual$Design" "outputs" "[I") (by decide +kernel)
  have kf23 := hts (.fieldLink RX2 23 "SweepEqual" "designB" "LSweepEqual$Design;") (by decide +kernel)
  have kf47 := hts (.fieldLink RX2 47 "SweepEqual" "latchCount" "I") (by decide +kernel)
  have kf92 := hts (.fieldLink RX2 92 "SweepEqual$Design" "nexts" "[I") (by decide +kernel)
  have hgi := hgO t ht
  refine lv_iload_n hx hb dX2_witness_0 rfl (lv_at hl 1 rfl) ?_
  refine lv_if_lt (tgt := 38) hx hb dX2_witness_1 (by decide) (fun c0 => ?_) (fun c0 => ?_)
  · exact absurd c0 (nI_pos (by omega))
  · refine lv_iload_n hx hb dX2_witness_4 rfl (lv_at hl 1 rfl) ?_
    refine lv_aload_n hx hb dX2_witness_5 rfl (lv_at hl 0 rfl) ?_
    refine rd_V (As := []) (rest := [.int (nI t)]) ⟨hx, hb, hml, hown, hts⟩ (c_X2_sharedOutputs l D cI cJ tp h hn ow fi ma ro ha oa na sa he ob nb sb ic lc stp ap cnt len fo ff fk fr oA cA rA tA gA nA sA oB cB rB tB gB nB sB ho1 ho2) (cwV 0 hts gX2_witness_X2_sharedOutputs rfl rfl rfl (by decide +kernel) ⟨Nat.le_of_ble_eq_true rfl, Nat.le_of_ble_eq_true rfl⟩) (re_pv (ci := 2) (q0 := 0) hK hP hE rfl rfl) rfl hl.1 rfl (Nat.le_of_ble_eq_true rfl) dX2_witness_6 ⟨Nat.zero_le _, Nat.zero_le _⟩ ?_
    refine lv_icmp_ge (tgt := 38) hx hb dX2_witness_9 (by decide) (fun c1 => ?_) (fun c1 => ?_)
    · have c1 : min oA oB ≤ t := (nI_leI (by omega) (by omega)).mp c1
      exact absurd c1 (by omega)
    · have c1 : ¬ (min oA oB ≤ t) := fun h => c1 ((nI_leI (by omega) (by omega)).mpr h)
      refine lv_aload_n hx hb dX2_witness_12 rfl (lv_at hl 0 rfl) ?_
      refine va_get (D := D) (ci := 2) (v := .ref hn) (C := RX2) (T := TX2) (N := 7) hx hb hts hin2 hown hK hP 0 rfl rfl 0 (by decide) kf12 (fun _ h9 => h9) rfl dX2_witness_13 ?_
      refine lv_aload_n hx hb dX2_witness_16 rfl (lv_at hl 0 rfl) ?_
      refine va_get (D := D) (ci := 2) (v := .ref ha) (C := RX2) (T := TX2) (N := 7) hx hb hts hin2 hown hK hP 0 rfl rfl 1 (by decide) kf19 (fun _ h9 => h9) rfl dX2_witness_17 ?_
      refine va_get (D := D) (ci := 0) (v := .ref oa) (C := RX0) (T := TX0) (N := 7) hx hb hts hin0 hown hK hP 6 rfl rfl 0 (by decide) kf128 (fun _ h9 => h9) rfl dX2_witness_20 ?_
      refine lv_iload_n hx hb dX2_witness_23 rfl (lv_at hl 1 rfl) ?_
      refine va_iald hx hb hK hP 7 0 rfl rfl (vp_in_nI (by omega) (by omega)) dX2_witness_24 ?_
      refine tp_i (show (fun j => nI (gA j)) (nI t).toNatClampNeg = nI (gA t) from congrArg (fun j => nI (gA j)) (nI_clamp (by omega))) ?_
      refine lv_aload_n hx hb dX2_witness_25 rfl (lv_at hl 0 rfl) ?_
      refine va_get (D := D) (ci := 2) (v := .ref he) (C := RX2) (T := TX2) (N := 7) hx hb hts hin2 hown hK hP 0 rfl rfl 2 (by decide) kf23 (fun _ h9 => h9) rfl dX2_witness_26 ?_
      refine va_get (D := D) (ci := 0) (v := .ref ob) (C := RX0) (T := TX0) (N := 7) hx hb hts hin0 hown hK hP 10 rfl rfl 0 (by decide) kf128 (fun _ h9 => h9) rfl dX2_witness_29 ?_
      refine lv_iload_n hx hb dX2_witness_32 rfl (lv_at hl 1 rfl) ?_
      refine va_iald hx hb hK hP 11 0 rfl rfl (vp_in_nI (by omega) (by omega)) dX2_witness_33 ?_
      refine tp_i (show (fun j => nI (gB j)) (nI t).toNatClampNeg = nI (gB t) from congrArg (fun j => nI (gB j)) (nI_clamp (by omega))) ?_
      refine rd_V (As := [.int (nI (gA t)), .int (nI (gB t))]) (rest := []) ⟨hx, hb, hml, hown, hts⟩ (c_X1_leastDifference l D cI cJ hn ow fi ma ro cnt len fo ff fk fr (gA t) (gB t) (by omega) (by omega) hl2) (cwV 2 hts gX2_witness_X1_leastDifference rfl rfl rfl (by decide +kernel) ⟨Nat.le_of_ble_eq_true rfl, Nat.le_of_ble_eq_true rfl⟩) (rd_pv (ci := 1) (q0 := 0) hK (hP.sub (ws' := [(hn, .inr (1, [.int (nI cnt), .ref ow, .ref fi, .ref ma, .ref ro])), (ow, .inl (cI, 400, .inl fo)), (fi, .inl (cI, 400, .inl ff)), (ma, .inl (cJ, 400, .inr (.inl fk))), (ro, .inl (cJ, len, .inr (.inl fr)))]) [1, 2, 3, 4, 5] rfl) rfl rfl) rfl hl.1 rfl (Nat.le_of_ble_eq_true rfl) dX2_witness_34 ⟨Nat.zero_le _, Nat.zero_le _⟩ ?_
      exact rd_i hx hb hr hlocks dX2_witness_37 (rfl)
set_option maxHeartbeats 4000000 in
set_option maxRecDepth 100000 in
/-- witness of a next -/
theorem c_X2_witnessN (t : Nat) (ht : 100 ≤ t) (ht2 : t < 100 + lc) (ho1 : oA ≤ 16) (ho2 : oB ≤ 16) (hgO : ∀ j, j < min oA oB → gA j < 2 * cnt ∧ gB j < 2 * cnt) (hgN : ∀ j, j < lc → nA j < 2 * cnt ∧ nB j < 2 * cnt) (hlc : lc ≤ 4) (hc : cnt ≤ 400) (hl1 : cnt * 64 ≤ len) (hl2 : len ≤ 25600) : Met l yX2_witness wsX2_witness { frames := 3, cells := 0, slots := 0, locals := 68 } (re_P D [(cI, .int), (cJ, .long)] (xW h hn ow fi ma ro ha oa na sa he ob nb sb cI cJ ic lc stp ap cnt len fo ff fk fr oA cA rA tA gA nA sA oB cB rB tB gB nB sB) tp [.ref h, .int (nI t)]) (k2_QcV (.int (ldF fr (nA (t - 100)) (nB (t - 100)) 64 0))) 0 0 (fun _ => False) := by
  refine Met.ofW (cc := cX2_witness) (maxL := 3) (ret := (some .int)) (by decide) rfl ?_
  intro p e s m args below meth c s₁ B hml hv
  obtain ⟨rfl, ⟨hP, hK⟩, hE⟩ := hv
  have hx := B.exec
  have hb := B.bytes
  have hr := B.returns
  have hts := atoms_spec (ws := wsX2_witness) B.pre
  have hown : s.vm.findClass RX2 = some m.cls := findClass_of_methodNamed B.named
  have hlocks := B.notSynchronized
  have hl := lv_entry ([.ref h, .int (nI t)]) (n := 3) (Nat.le_of_ble_eq_true rfl)
  rw [lg_entry_eq]
  generalize (lg_sl ([.ref h, .int (nI t)]) ++ List.replicate (3 - (lg_sl ([.ref h, .int (nI t)])).length) Slot.unset).toArray = ls at hl ⊢
  have hl : lv_has ls 3 [(0, .ref h), (1, .int (nI t))] := hl
  have hP : va_P D vwCl [(h, .inr (2, [.ref hn, .ref ha, .ref he, .int (nI ic), .int (nI lc), .int (nI stp), .int ap])), (hn, .inr (1, [.int (nI cnt), .ref ow, .ref fi, .ref ma, .ref ro])), (ow, .inl (cI, 400, .inl fo)), (fi, .inl (cI, 400, .inl ff)), (ma, .inl (cJ, 400, .inr (.inl fk))), (ro, .inl (cJ, len, .inr (.inl fr))), (ha, .inr (0, [.ref oa, .ref na, .ref sa, .int (nI oA), .int (nI cA), .int (nI rA), .int (nI tA)])), (oa, .inl (cI, 16, .inl (fun j => nI (gA j)))), (na, .inl (cI, 4, .inl (fun j => nI (nA j)))), (sa, .inl (cI, 16, .inl sA)), (he, .inr (0, [.ref ob, .ref nb, .ref sb, .int (nI oB), .int (nI cB), .int (nI rB), .int (nI tB)])), (ob, .inl (cI, 16, .inl (fun j => nI (gB j)))), (nb, .inl (cI, 4, .inl (fun j => nI (nB j)))), (sb, .inl (cI, 16, .inl sB))] s.heap := hP
  have hin0 : ∀ w ∈ wsX00, w ∈ wsX2_witness := by decide +kernel
  have hin2 : ∀ w ∈ wsX20, w ∈ wsX2_witness := by decide +kernel
  have kf12 := hts (.fieldLink RX2 12 "SweepEqual" "nodes" "LSweepEqual$Nodes;") (by decide +kernel)
  have kf19 := hts (.fieldLink RX2 19 "SweepEqual" "designA" "LSweepEqual$Design;") (by decide +kernel)
  have kf128 := hts (.fieldLink RX2 128 "SweepEqual$Design" "outputs" "[I") (by decide +kernel)
  have kf23 := hts (.fieldLink RX2 23 "SweepEqual" "designB" "LSweepEqual$Design;") (by decide +kernel)
  have kf47 := hts (.fieldLink RX2 47 "SweepEqual" "latchCount" "I") (by decide +kernel)
  have kf92 := hts (.fieldLink RX2 92 "SweepEqual$Design" "nexts" "[I") (by decide +kernel)
  have hgi := hgN (t - 100) (by omega)
  refine lv_iload_n hx hb dX2_witness_0 rfl (lv_at hl 1 rfl) ?_
  refine lv_if_lt (tgt := 38) hx hb dX2_witness_1 (by decide) (fun c0 => ?_) (fun c0 => ?_)
  · exact absurd c0 (nI_pos (by omega))
  · refine lv_iload_n hx hb dX2_witness_4 rfl (lv_at hl 1 rfl) ?_
    refine lv_aload_n hx hb dX2_witness_5 rfl (lv_at hl 0 rfl) ?_
    refine rd_V (As := []) (rest := [.int (nI t)]) ⟨hx, hb, hml, hown, hts⟩ (c_X2_sharedOutputs l D cI cJ tp h hn ow fi ma ro ha oa na sa he ob nb sb ic lc stp ap cnt len fo ff fk fr oA cA rA tA gA nA sA oB cB rB tB gB nB sB ho1 ho2) (cwV 0 hts gX2_witness_X2_sharedOutputs rfl rfl rfl (by decide +kernel) ⟨Nat.le_of_ble_eq_true rfl, Nat.le_of_ble_eq_true rfl⟩) (re_pv (ci := 2) (q0 := 0) hK hP hE rfl rfl) rfl hl.1 rfl (Nat.le_of_ble_eq_true rfl) dX2_witness_6 ⟨Nat.zero_le _, Nat.zero_le _⟩ ?_
    refine lv_icmp_ge (tgt := 38) hx hb dX2_witness_9 (by decide) (fun c1 => ?_) (fun c1 => ?_)
    · have c1 : min oA oB ≤ t := (nI_leI (by omega) (by omega)).mp c1
      refine lv_iload_n hx hb dX2_witness_38 rfl (lv_at hl 1 rfl) ?_
      refine lv_bipush (v := nI 100) hx hb dX2_witness_39 (by decide) ?_
      refine lv_icmp_lt (tgt := 86) hx hb dX2_witness_41 (by decide) (fun c2 => ?_) (fun c2 => ?_)
      · have c2 : t < 100 := (nI_ltI (by omega) (by omega)).mp c2
        exact absurd c2 (by omega)
      · have c2 : ¬ (t < 100) := fun h => c2 ((nI_ltI (by omega) (by omega)).mpr h)
        refine lv_iload_n hx hb dX2_witness_44 rfl (lv_at hl 1 rfl) ?_
        refine lv_bipush (v := nI 100) hx hb dX2_witness_45 (by decide) ?_
        refine lv_aload_n hx hb dX2_witness_47 rfl (lv_at hl 0 rfl) ?_
        refine va_get (D := D) (ci := 2) (v := .int (nI lc)) (C := RX2) (T := TX2) (N := 7) hx hb hts hin2 hown hK hP 0 rfl rfl 4 (by decide) kf47 (fun _ h9 => h9) rfl dX2_witness_48 ?_
        refine lv_iadd hx hb dX2_witness_51 ?_
        refine tp_i (show (nI 100) + (nI lc) = nI (100 + lc) from nI_add _ _) ?_
        refine lv_icmp_ge (tgt := 86) hx hb dX2_witness_52 (by decide) (fun c3 => ?_) (fun c3 => ?_)
        · have c3 : 100 + lc ≤ t := (nI_leI (by omega) (by omega)).mp c3
          exact absurd c3 (by omega)
        · have c3 : ¬ (100 + lc ≤ t) := fun h => c3 ((nI_leI (by omega) (by omega)).mpr h)
          refine lv_iload_n hx hb dX2_witness_55 rfl (lv_at hl 1 rfl) ?_
          refine lv_bipush (v := nI 100) hx hb dX2_witness_56 (by decide) ?_
          refine lv_isub hx hb dX2_witness_58 ?_
          refine tp_i (show (nI t) - (nI 100) = nI (t - 100) from pk_sub (by omega)) ?_
          refine lv_istore_n (lv' := [(2, .int (nI (t - 100))), (0, .ref h), (1, .int (nI t))]) hx hb dX2_witness_59 rfl hl (by decide) rfl (fun ls hl => ?_)
          refine lv_aload_n hx hb dX2_witness_60 rfl (lv_at hl 1 rfl) ?_
          refine va_get (D := D) (ci := 2) (v := .ref hn) (C := RX2) (T := TX2) (N := 7) hx hb hts hin2 hown hK hP 0 rfl rfl 0 (by decide) kf12 (fun _ h9 => h9) rfl dX2_witness_61 ?_
          refine lv_aload_n hx hb dX2_witness_64 rfl (lv_at hl 1 rfl) ?_
          refine va_get (D := D) (ci := 2) (v := .ref ha) (C := RX2) (T := TX2) (N := 7) hx hb hts hin2 hown hK hP 0 rfl rfl 1 (by decide) kf19 (fun _ h9 => h9) rfl dX2_witness_65 ?_
          refine va_get (D := D) (ci := 0) (v := .ref na) (C := RX0) (T := TX0) (N := 7) hx hb hts hin0 hown hK hP 6 rfl rfl 1 (by decide) kf92 (fun _ h9 => h9) rfl dX2_witness_68 ?_
          refine lv_iload_n hx hb dX2_witness_71 rfl (lv_at hl 0 rfl) ?_
          refine va_iald hx hb hK hP 8 0 rfl rfl (vp_in_nI (by omega) (by omega)) dX2_witness_72 ?_
          refine tp_i (show (fun j => nI (nA j)) (nI (t - 100)).toNatClampNeg = nI (nA (t - 100)) from congrArg (fun j => nI (nA j)) (nI_clamp (by omega))) ?_
          refine lv_aload_n hx hb dX2_witness_73 rfl (lv_at hl 1 rfl) ?_
          refine va_get (D := D) (ci := 2) (v := .ref he) (C := RX2) (T := TX2) (N := 7) hx hb hts hin2 hown hK hP 0 rfl rfl 2 (by decide) kf23 (fun _ h9 => h9) rfl dX2_witness_74 ?_
          refine va_get (D := D) (ci := 0) (v := .ref nb) (C := RX0) (T := TX0) (N := 7) hx hb hts hin0 hown hK hP 10 rfl rfl 1 (by decide) kf92 (fun _ h9 => h9) rfl dX2_witness_77 ?_
          refine lv_iload_n hx hb dX2_witness_80 rfl (lv_at hl 0 rfl) ?_
          refine va_iald hx hb hK hP 12 0 rfl rfl (vp_in_nI (by omega) (by omega)) dX2_witness_81 ?_
          refine tp_i (show (fun j => nI (nB j)) (nI (t - 100)).toNatClampNeg = nI (nB (t - 100)) from congrArg (fun j => nI (nB j)) (nI_clamp (by omega))) ?_
          refine rd_V (As := [.int (nI (nA (t - 100))), .int (nI (nB (t - 100)))]) (rest := []) ⟨hx, hb, hml, hown, hts⟩ (c_X1_leastDifference l D cI cJ hn ow fi ma ro cnt len fo ff fk fr (nA (t - 100)) (nB (t - 100)) (by omega) (by omega) hl2) (cwV 2 hts gX2_witness_X1_leastDifference rfl rfl rfl (by decide +kernel) ⟨Nat.le_of_ble_eq_true rfl, Nat.le_of_ble_eq_true rfl⟩) (rd_pv (ci := 1) (q0 := 0) hK (hP.sub (ws' := [(hn, .inr (1, [.int (nI cnt), .ref ow, .ref fi, .ref ma, .ref ro])), (ow, .inl (cI, 400, .inl fo)), (fi, .inl (cI, 400, .inl ff)), (ma, .inl (cJ, 400, .inr (.inl fk))), (ro, .inl (cJ, len, .inr (.inl fr)))]) [1, 2, 3, 4, 5] rfl) rfl rfl) rfl hl.1 rfl (Nat.le_of_ble_eq_true rfl) dX2_witness_82 ⟨Nat.zero_le _, Nat.zero_le _⟩ ?_
          exact rd_i hx hb hr hlocks dX2_witness_85 (rfl)
    · have c1 : ¬ (min oA oB ≤ t) := fun h => c1 ((nI_leI (by omega) (by omega)).mpr h)
      exact absurd c1 (by omega)
set_option maxHeartbeats 4000000 in
set_option maxRecDepth 100000 in
/-- witness: no such thing -/
theorem t_X2_witness1 (hl9 : l.stackTraces = false) (x : Int32) (hx1 : x < 0 ∨ nI (min oA oB) ≤ x) (hx2 : x < nI 100 ∨ nI (100 + lc) ≤ x) (ho1 : oA ≤ 16) (ho2 : oB ≤ 16) : TH l yX2_witness wsX2_witness { frames := 6, cells := 1, slots := 6, locals := 82 } (re_P D [(cI, .int), (cJ, .long)] (xW h hn ow fi ma ro ha oa na sa he ob nb sb cI cJ ic lc stp ap cnt len fo ff fk fr oA cA rA tA gA nA sA oB cB rB tB gB nB sB) tp [.ref h, .int x]) "java/lang/IndexOutOfBoundsException" := by
  refine vx_ofW (cc := cX2_witness) (maxL := 3) (ret := (some .int)) (by decide) rfl ?_
  intro p e s m args below meth c s₁ B hml hno hv
  obtain ⟨rfl, ⟨hP, hK⟩, hE⟩ := hv
  have hx := B.exec
  have hb := B.bytes
  have hr := B.returns
  have hts := atoms_spec (ws := wsX2_witness) B.pre
  have hown : s.vm.findClass RX2 = some m.cls := findClass_of_methodNamed B.named
  have hlocks := B.notSynchronized
  have hl := lv_entry ([.ref h, .int x]) (n := 3) (Nat.le_of_ble_eq_true rfl)
  rw [lg_entry_eq]
  generalize (lg_sl ([.ref h, .int x]) ++ List.replicate (3 - (lg_sl ([.ref h, .int x])).length) Slot.unset).toArray = ls at hl ⊢
  have hl : lv_has ls 3 [(0, .ref h), (1, .int x)] := hl
  have hP : va_P D vwCl [(h, .inr (2, [.ref hn, .ref ha, .ref he, .int (nI ic), .int (nI lc), .int (nI stp), .int ap])), (hn, .inr (1, [.int (nI cnt), .ref ow, .ref fi, .ref ma, .ref ro])), (ow, .inl (cI, 400, .inl fo)), (fi, .inl (cI, 400, .inl ff)), (ma, .inl (cJ, 400, .inr (.inl fk))), (ro, .inl (cJ, len, .inr (.inl fr))), (ha, .inr (0, [.ref oa, .ref na, .ref sa, .int (nI oA), .int (nI cA), .int (nI rA), .int (nI tA)])), (oa, .inl (cI, 16, .inl (fun j => nI (gA j)))), (na, .inl (cI, 4, .inl (fun j => nI (nA j)))), (sa, .inl (cI, 16, .inl sA)), (he, .inr (0, [.ref ob, .ref nb, .ref sb, .int (nI oB), .int (nI cB), .int (nI rB), .int (nI tB)])), (ob, .inl (cI, 16, .inl (fun j => nI (gB j)))), (nb, .inl (cI, 4, .inl (fun j => nI (nB j)))), (sb, .inl (cI, 16, .inl sB))] s.heap := hP
  have hin0 : ∀ w ∈ wsX00, w ∈ wsX2_witness := by decide +kernel
  have hin2 : ∀ w ∈ wsX20, w ∈ wsX2_witness := by decide +kernel
  have kf12 := hts (.fieldLink RX2 12 "SweepEqual" "nodes" "LSweepEqual$Nodes;") (by decide +kernel)
  have kf19 := hts (.fieldLink RX2 19 "SweepEqual" "designA" "LSweepEqual$Design;") (by decide +kernel)
  have kf128 := hts (.fieldLink RX2 128 "SweepEqual$Design" "outputs" "[I") (by decide +kernel)
  have kf23 := hts (.fieldLink RX2 23 "SweepEqual" "designB" "LSweepEqual$Design;") (by decide +kernel)
  have kf47 := hts (.fieldLink RX2 47 "SweepEqual" "latchCount" "I") (by decide +kernel)
  have kf92 := hts (.fieldLink RX2 92 "SweepEqual$Design" "nexts" "[I") (by decide +kernel)
  have hgw_io : ∀ w ∈ (vx_atS RX2 124 "java/lang/IndexOutOfBoundsException" xN).filter goodWord, w.before ([.ref h, .int x] : List Value).toArray s = true := fun w hw => hts w (inX_X2_witness_io w hw)
  refine lv_iload_n hx hb dX2_witness_0 rfl (lv_at hl 1 rfl) ?_
  refine lv_if_lt (tgt := 38) hx hb dX2_witness_1 (by decide) (fun c0 => ?_) (fun c0 => ?_)
  · refine lv_iload_n hx hb dX2_witness_38 rfl (lv_at hl 1 rfl) ?_
    refine lv_bipush (v := nI 100) hx hb dX2_witness_39 (by decide) ?_
    refine lv_icmp_lt (tgt := 86) hx hb dX2_witness_41 (by decide) (fun c2 => ?_) (fun c2 => ?_)
    · exact th_S (cls := "java/lang/IndexOutOfBoundsException") (text := "no such output or next of both sides") hx hb hl9 hown (by decide +kernel) (hts (.classLink RX2 120 "java/lang/IndexOutOfBoundsException") (by decide +kernel)) (hts (.initialized "java/lang/IndexOutOfBoundsException") (by decide +kernel)) hgw_io hng_io hgd_io hE (by decide) (by decide) (by rw [hml]; exact hl.1) dX2_witness_86 dX2_witness_89 dX2_witness_90 dX2_witness_92 dX2_witness_95 hno (Nat.le_of_ble_eq_true rfl) (Nat.le_of_ble_eq_true rfl) (Nat.le_of_ble_eq_true rfl) (Nat.le_of_ble_eq_true rfl) hlocks
    · refine lv_iload_n hx hb dX2_witness_44 rfl (lv_at hl 1 rfl) ?_
      refine lv_bipush (v := nI 100) hx hb dX2_witness_45 (by decide) ?_
      refine lv_aload_n hx hb dX2_witness_47 rfl (lv_at hl 0 rfl) ?_
      refine va_get (D := D) (ci := 2) (v := .int (nI lc)) (C := RX2) (T := TX2) (N := 7) hx hb hts hin2 hown hK hP 0 rfl rfl 4 (by decide) kf47 (fun _ h9 => h9) rfl dX2_witness_48 ?_
      refine lv_iadd hx hb dX2_witness_51 ?_
      refine tp_i (show (nI 100) + (nI lc) = nI (100 + lc) from nI_add _ _) ?_
      refine lv_icmp_ge (tgt := 86) hx hb dX2_witness_52 (by decide) (fun c3 => ?_) (fun c3 => ?_)
      · exact th_S (cls := "java/lang/IndexOutOfBoundsException") (text := "no such output or next of both sides") hx hb hl9 hown (by decide +kernel) (hts (.classLink RX2 120 "java/lang/IndexOutOfBoundsException") (by decide +kernel)) (hts (.initialized "java/lang/IndexOutOfBoundsException") (by decide +kernel)) hgw_io hng_io hgd_io hE (by decide) (by decide) (by rw [hml]; exact hl.1) dX2_witness_86 dX2_witness_89 dX2_witness_90 dX2_witness_92 dX2_witness_95 hno (Nat.le_of_ble_eq_true rfl) (Nat.le_of_ble_eq_true rfl) (Nat.le_of_ble_eq_true rfl) (Nat.le_of_ble_eq_true rfl) hlocks
      · exact absurd (hx2.resolve_left c2) c3
  · refine lv_iload_n hx hb dX2_witness_4 rfl (lv_at hl 1 rfl) ?_
    refine lv_aload_n hx hb dX2_witness_5 rfl (lv_at hl 0 rfl) ?_
    refine rd_V (As := []) (rest := [.int x]) ⟨hx, hb, hml, hown, hts⟩ (c_X2_sharedOutputs l D cI cJ tp h hn ow fi ma ro ha oa na sa he ob nb sb ic lc stp ap cnt len fo ff fk fr oA cA rA tA gA nA sA oB cB rB tB gB nB sB ho1 ho2) (cwV 0 hts gX2_witness_X2_sharedOutputs rfl rfl rfl (by decide +kernel) ⟨Nat.le_of_ble_eq_true rfl, Nat.le_of_ble_eq_true rfl⟩) (re_pv (ci := 2) (q0 := 0) hK hP hE rfl rfl) rfl hl.1 rfl (Nat.le_of_ble_eq_true rfl) dX2_witness_6 ⟨Nat.zero_le _, Nat.zero_le _⟩ ?_
    refine lv_icmp_ge (tgt := 38) hx hb dX2_witness_9 (by decide) (fun c1 => ?_) (fun c1 => ?_)
    · refine lv_iload_n hx hb dX2_witness_38 rfl (lv_at hl 1 rfl) ?_
      refine lv_bipush (v := nI 100) hx hb dX2_witness_39 (by decide) ?_
      refine lv_icmp_lt (tgt := 86) hx hb dX2_witness_41 (by decide) (fun c2 => ?_) (fun c2 => ?_)
      · exact th_S (cls := "java/lang/IndexOutOfBoundsException") (text := "no such output or next of both sides") hx hb hl9 hown (by decide +kernel) (hts (.classLink RX2 120 "java/lang/IndexOutOfBoundsException") (by decide +kernel)) (hts (.initialized "java/lang/IndexOutOfBoundsException") (by decide +kernel)) hgw_io hng_io hgd_io hE (by decide) (by decide) (by rw [hml]; exact hl.1) dX2_witness_86 dX2_witness_89 dX2_witness_90 dX2_witness_92 dX2_witness_95 hno (Nat.le_of_ble_eq_true rfl) (Nat.le_of_ble_eq_true rfl) (Nat.le_of_ble_eq_true rfl) (Nat.le_of_ble_eq_true rfl) hlocks
      · refine lv_iload_n hx hb dX2_witness_44 rfl (lv_at hl 1 rfl) ?_
        refine lv_bipush (v := nI 100) hx hb dX2_witness_45 (by decide) ?_
        refine lv_aload_n hx hb dX2_witness_47 rfl (lv_at hl 0 rfl) ?_
        refine va_get (D := D) (ci := 2) (v := .int (nI lc)) (C := RX2) (T := TX2) (N := 7) hx hb hts hin2 hown hK hP 0 rfl rfl 4 (by decide) kf47 (fun _ h9 => h9) rfl dX2_witness_48 ?_
        refine lv_iadd hx hb dX2_witness_51 ?_
        refine tp_i (show (nI 100) + (nI lc) = nI (100 + lc) from nI_add _ _) ?_
        refine lv_icmp_ge (tgt := 86) hx hb dX2_witness_52 (by decide) (fun c3 => ?_) (fun c3 => ?_)
        · exact th_S (cls := "java/lang/IndexOutOfBoundsException") (text := "no such output or next of both sides") hx hb hl9 hown (by decide +kernel) (hts (.classLink RX2 120 "java/lang/IndexOutOfBoundsException") (by decide +kernel)) (hts (.initialized "java/lang/IndexOutOfBoundsException") (by decide +kernel)) hgw_io hng_io hgd_io hE (by decide) (by decide) (by rw [hml]; exact hl.1) dX2_witness_86 dX2_witness_89 dX2_witness_90 dX2_witness_92 dX2_witness_95 hno (Nat.le_of_ble_eq_true rfl) (Nat.le_of_ble_eq_true rfl) (Nat.le_of_ble_eq_true rfl) (Nat.le_of_ble_eq_true rfl) hlocks
        · exact absurd (hx2.resolve_left c2) c3
    · exact absurd (hx1.resolve_left c0) c1
set_option maxHeartbeats 4000000 in
set_option maxRecDepth 100000 in
/-- out of side 0 -/
theorem c_X2_out0 (j : Nat) (hj : j < oA) (ho : oA ≤ 16) (hcc : cA ≤ 16) : Met l yX2_out wsX2_out { frames := 1, cells := 0, slots := 0, locals := 21 } (re_P D [(cI, .int), (cJ, .long)] (xW h hn ow fi ma ro ha oa na sa he ob nb sb cI cJ ic lc stp ap cnt len fo ff fk fr oA cA rA tA gA nA sA oB cB rB tB gB nB sB) tp [.ref h, .int 0, .int (nI j)]) (k2_QcV (.int (if j < cA then sA j else -1))) 0 0 (fun _ => False) := by
  refine Met.ofW (cc := cX2_out) (maxL := 4) (ret := (some .int)) (by decide) rfl ?_
  intro p e s m args below meth c s₁ B hml hv
  obtain ⟨rfl, ⟨hP, hK⟩, hE⟩ := hv
  have hx := B.exec
  have hb := B.bytes
  have hr := B.returns
  have hts := atoms_spec (ws := wsX2_out) B.pre
  have hown : s.vm.findClass RX2 = some m.cls := findClass_of_methodNamed B.named
  have hlocks := B.notSynchronized
  have hl := lv_entry ([.ref h, .int 0, .int (nI j)]) (n := 4) (Nat.le_of_ble_eq_true rfl)
  rw [lg_entry_eq]
  generalize (lg_sl ([.ref h, .int 0, .int (nI j)]) ++ List.replicate (4 - (lg_sl ([.ref h, .int 0, .int (nI j)])).length) Slot.unset).toArray = ls at hl ⊢
  have hl : lv_has ls 4 [(0, .ref h), (1, .int 0), (2, .int (nI j))] := hl
  have hP : va_P D vwCl [(h, .inr (2, [.ref hn, .ref ha, .ref he, .int (nI ic), .int (nI lc), .int (nI stp), .int ap])), (hn, .inr (1, [.int (nI cnt), .ref ow, .ref fi, .ref ma, .ref ro])), (ow, .inl (cI, 400, .inl fo)), (fi, .inl (cI, 400, .inl ff)), (ma, .inl (cJ, 400, .inr (.inl fk))), (ro, .inl (cJ, len, .inr (.inl fr))), (ha, .inr (0, [.ref oa, .ref na, .ref sa, .int (nI oA), .int (nI cA), .int (nI rA), .int (nI tA)])), (oa, .inl (cI, 16, .inl (fun j => nI (gA j)))), (na, .inl (cI, 4, .inl (fun j => nI (nA j)))), (sa, .inl (cI, 16, .inl sA)), (he, .inr (0, [.ref ob, .ref nb, .ref sb, .int (nI oB), .int (nI cB), .int (nI rB), .int (nI tB)])), (ob, .inl (cI, 16, .inl (fun j => nI (gB j)))), (nb, .inl (cI, 4, .inl (fun j => nI (nB j)))), (sb, .inl (cI, 16, .inl sB))] s.heap := hP
  have hin0 : ∀ w ∈ wsX00, w ∈ wsX2_out := by decide +kernel
  have kf81 := hts (.fieldLink RX2 81 "SweepEqual$Design" "outputCount" "I") (by decide +kernel)
  have kf160 := hts (.fieldLink RX2 160 "SweepEqual$Design" "shownCount" "I") (by decide +kernel)
  have kf163 := hts (.fieldLink RX2 163 "SweepEqual$Design" "shown" "[I") (by decide +kernel)
  refine lv_aload_n hx hb dX2_out_0 rfl (lv_at hl 0 rfl) ?_
  refine lv_iload_n hx hb dX2_out_1 rfl (lv_at hl 1 rfl) ?_
  refine rv_V (As := [.int 0]) (rest := []) ⟨hx, hb, hml, hown, hts⟩ (c_X2_needSide l D cI cJ tp h hn ow fi ma ro ha oa na sa he ob nb sb ic lc stp ap cnt len fo ff fk fr oA cA rA tA gA nA sA oB cB rB tB gB nB sB 0 (by decide)) (cwV 1 hts gX2_out_X2_needSide rfl rfl rfl (by decide +kernel) ⟨Nat.le_of_ble_eq_true rfl, Nat.le_of_ble_eq_true rfl⟩) (re_pv (ci := 2) (q0 := 0) hK hP hE rfl rfl) rfl hl.1 rfl (Nat.le_of_ble_eq_true rfl) dX2_out_2 ⟨Nat.zero_le _, Nat.zero_le _⟩ ?_
  refine lv_aload_n hx hb dX2_out_5 rfl (lv_at hl 0 rfl) ?_
  refine lv_iload_n hx hb dX2_out_6 rfl (lv_at hl 1 rfl) ?_
  refine rd_V (As := [.int 0]) (rest := []) ⟨hx, hb, hml, hown, hts⟩ (c_X2_designOf0 l D cI cJ tp h hn ow fi ma ro ha oa na sa he ob nb sb ic lc stp ap cnt len fo ff fk fr oA cA rA tA gA nA sA oB cB rB tB gB nB sB) (cwV 1 hts gX2_out_X2_designOf rfl rfl rfl (by decide +kernel) ⟨Nat.le_of_ble_eq_true rfl, Nat.le_of_ble_eq_true rfl⟩) (re_pv (ci := 2) (q0 := 0) hK hP hE rfl rfl) rfl hl.1 rfl (Nat.le_of_ble_eq_true rfl) dX2_out_7 ⟨Nat.zero_le _, Nat.zero_le _⟩ ?_
  refine lv_astore_n (lv' := [(3, .ref ha), (0, .ref h), (1, .int 0), (2, .int (nI j))]) hx hb dX2_out_10 rfl hl (by decide) rfl (fun ls hl => ?_)
  refine lv_iload_n hx hb dX2_out_11 rfl (lv_at hl 3 rfl) ?_
  refine lv_if_lt (tgt := 23) hx hb dX2_out_12 (by decide) (fun c0 => ?_) (fun c0 => ?_)
  · exact absurd c0 (nI_pos (by omega))
  · refine lv_iload_n hx hb dX2_out_15 rfl (lv_at hl 3 rfl) ?_
    refine lv_aload_n hx hb dX2_out_16 rfl (lv_at hl 0 rfl) ?_
    refine va_get (D := D) (ci := 0) (v := .int (nI oA)) (C := RX0) (T := TX0) (N := 7) hx hb hts hin0 hown hK hP 6 rfl rfl 3 (by decide) kf81 (fun _ h9 => h9) rfl dX2_out_17 ?_
    refine lv_icmp_lt (tgt := 33) hx hb dX2_out_20 (by decide) (fun c1 => ?_) (fun c1 => ?_)
    · have c1 : j < oA := (nI_ltI (by omega) (by omega)).mp c1
      refine lv_iload_n hx hb dX2_out_33 rfl (lv_at hl 3 rfl) ?_
      refine lv_aload_n hx hb dX2_out_34 rfl (lv_at hl 0 rfl) ?_
      refine va_get (D := D) (ci := 0) (v := .int (nI cA)) (C := RX0) (T := TX0) (N := 7) hx hb hts hin0 hown hK hP 6 rfl rfl 4 (by decide) kf160 (fun _ h9 => h9) rfl dX2_out_35 ?_
      refine lv_icmp_ge (tgt := 50) hx hb dX2_out_38 (by decide) (fun c2 => ?_) (fun c2 => ?_)
      · have c2 : cA ≤ j := (nI_leI (by omega) (by omega)).mp c2
        refine lv_iconst (v := -1) hx hb dX2_out_50 (by decide) ?_
        exact rd_i hx hb hr hlocks dX2_out_51 (by rw [if_neg (by omega)])
      · have c2 : ¬ (cA ≤ j) := fun h => c2 ((nI_leI (by omega) (by omega)).mpr h)
        refine lv_aload_n hx hb dX2_out_41 rfl (lv_at hl 0 rfl) ?_
        refine va_get (D := D) (ci := 0) (v := .ref sa) (C := RX0) (T := TX0) (N := 7) hx hb hts hin0 hown hK hP 6 rfl rfl 2 (by decide) kf163 (fun _ h9 => h9) rfl dX2_out_42 ?_
        refine lv_iload_n hx hb dX2_out_45 rfl (lv_at hl 3 rfl) ?_
        refine va_iald hx hb hK hP 9 0 rfl rfl (vp_in_nI (by omega) (by omega)) dX2_out_46 ?_
        refine tp_i (show sA (nI j).toNatClampNeg = sA j from congrArg sA (nI_clamp (by omega))) ?_
        refine lv_goto (tgt := 51) hx hb dX2_out_47 (by decide) ?_
        exact rd_i hx hb hr hlocks dX2_out_51 (by rw [if_pos (by omega)])
    · have c1 : ¬ (j < oA) := fun h => c1 ((nI_ltI (by omega) (by omega)).mpr h)
      exact absurd hj c1
set_option maxHeartbeats 4000000 in
set_option maxRecDepth 100000 in
/-- out: no such output of side 0 -/
theorem t_X2_out2_0 (hl9 : l.stackTraces = false) (x : Int32) (hx9 : x < 0 ∨ nI oA ≤ x) : TH l yX2_out wsX2_out { frames := 6, cells := 1, slots := 6, locals := 82 } (re_P D [(cI, .int), (cJ, .long)] (xW h hn ow fi ma ro ha oa na sa he ob nb sb cI cJ ic lc stp ap cnt len fo ff fk fr oA cA rA tA gA nA sA oB cB rB tB gB nB sB) tp [.ref h, .int 0, .int x]) "java/lang/IndexOutOfBoundsException" := by
  refine vx_ofW (cc := cX2_out) (maxL := 4) (ret := (some .int)) (by decide) rfl ?_
  intro p e s m args below meth c s₁ B hml hno hv
  obtain ⟨rfl, ⟨hP, hK⟩, hE⟩ := hv
  have hx := B.exec
  have hb := B.bytes
  have hr := B.returns
  have hts := atoms_spec (ws := wsX2_out) B.pre
  have hown : s.vm.findClass RX2 = some m.cls := findClass_of_methodNamed B.named
  have hlocks := B.notSynchronized
  have hl := lv_entry ([.ref h, .int 0, .int x]) (n := 4) (Nat.le_of_ble_eq_true rfl)
  rw [lg_entry_eq]
  generalize (lg_sl ([.ref h, .int 0, .int x]) ++ List.replicate (4 - (lg_sl ([.ref h, .int 0, .int x])).length) Slot.unset).toArray = ls at hl ⊢
  have hl : lv_has ls 4 [(0, .ref h), (1, .int 0), (2, .int x)] := hl
  have hP : va_P D vwCl [(h, .inr (2, [.ref hn, .ref ha, .ref he, .int (nI ic), .int (nI lc), .int (nI stp), .int ap])), (hn, .inr (1, [.int (nI cnt), .ref ow, .ref fi, .ref ma, .ref ro])), (ow, .inl (cI, 400, .inl fo)), (fi, .inl (cI, 400, .inl ff)), (ma, .inl (cJ, 400, .inr (.inl fk))), (ro, .inl (cJ, len, .inr (.inl fr))), (ha, .inr (0, [.ref oa, .ref na, .ref sa, .int (nI oA), .int (nI cA), .int (nI rA), .int (nI tA)])), (oa, .inl (cI, 16, .inl (fun j => nI (gA j)))), (na, .inl (cI, 4, .inl (fun j => nI (nA j)))), (sa, .inl (cI, 16, .inl sA)), (he, .inr (0, [.ref ob, .ref nb, .ref sb, .int (nI oB), .int (nI cB), .int (nI rB), .int (nI tB)])), (ob, .inl (cI, 16, .inl (fun j => nI (gB j)))), (nb, .inl (cI, 4, .inl (fun j => nI (nB j)))), (sb, .inl (cI, 16, .inl sB))] s.heap := hP
  have hin0 : ∀ w ∈ wsX00, w ∈ wsX2_out := by decide +kernel
  have kf81 := hts (.fieldLink RX2 81 "SweepEqual$Design" "outputCount" "I") (by decide +kernel)
  have kf160 := hts (.fieldLink RX2 160 "SweepEqual$Design" "shownCount" "I") (by decide +kernel)
  have kf163 := hts (.fieldLink RX2 163 "SweepEqual$Design" "shown" "[I") (by decide +kernel)
  have hgw_io : ∀ w ∈ (vx_atS RX2 124 "java/lang/IndexOutOfBoundsException" xN).filter goodWord, w.before ([.ref h, .int 0, .int x] : List Value).toArray s = true := fun w hw => hts w (inX_X2_out_io w hw)
  refine lv_aload_n hx hb dX2_out_0 rfl (lv_at hl 0 rfl) ?_
  refine lv_iload_n hx hb dX2_out_1 rfl (lv_at hl 1 rfl) ?_
  refine rv_V (As := [.int 0]) (rest := []) ⟨hx, hb, hml, hown, hts⟩ (c_X2_needSide l D cI cJ tp h hn ow fi ma ro ha oa na sa he ob nb sb ic lc stp ap cnt len fo ff fk fr oA cA rA tA gA nA sA oB cB rB tB gB nB sB 0 (by decide)) (cwV 1 hts gX2_out_X2_needSide rfl rfl rfl (by decide +kernel) ⟨Nat.le_of_ble_eq_true rfl, Nat.le_of_ble_eq_true rfl⟩) (re_pv (ci := 2) (q0 := 0) hK hP hE rfl rfl) rfl hl.1 rfl (Nat.le_of_ble_eq_true rfl) dX2_out_2 ⟨Nat.zero_le _, Nat.zero_le _⟩ ?_
  refine lv_aload_n hx hb dX2_out_5 rfl (lv_at hl 0 rfl) ?_
  refine lv_iload_n hx hb dX2_out_6 rfl (lv_at hl 1 rfl) ?_
  refine rd_V (As := [.int 0]) (rest := []) ⟨hx, hb, hml, hown, hts⟩ (c_X2_designOf0 l D cI cJ tp h hn ow fi ma ro ha oa na sa he ob nb sb ic lc stp ap cnt len fo ff fk fr oA cA rA tA gA nA sA oB cB rB tB gB nB sB) (cwV 1 hts gX2_out_X2_designOf rfl rfl rfl (by decide +kernel) ⟨Nat.le_of_ble_eq_true rfl, Nat.le_of_ble_eq_true rfl⟩) (re_pv (ci := 2) (q0 := 0) hK hP hE rfl rfl) rfl hl.1 rfl (Nat.le_of_ble_eq_true rfl) dX2_out_7 ⟨Nat.zero_le _, Nat.zero_le _⟩ ?_
  refine lv_astore_n (lv' := [(3, .ref ha), (0, .ref h), (1, .int 0), (2, .int x)]) hx hb dX2_out_10 rfl hl (by decide) rfl (fun ls hl => ?_)
  refine lv_iload_n hx hb dX2_out_11 rfl (lv_at hl 3 rfl) ?_
  refine lv_if_lt (tgt := 23) hx hb dX2_out_12 (by decide) (fun c0 => ?_) (fun c0 => ?_)
  · exact th_S (cls := "java/lang/IndexOutOfBoundsException") (text := "no such output") hx hb hl9 hown (by decide +kernel) (hts (.classLink RX2 120 "java/lang/IndexOutOfBoundsException") (by decide +kernel)) (hts (.initialized "java/lang/IndexOutOfBoundsException") (by decide +kernel)) hgw_io hng_io hgd_io hE (by decide) (by decide) (by rw [hml]; exact hl.1) dX2_out_23 dX2_out_26 dX2_out_27 dX2_out_29 dX2_out_32 hno (Nat.le_of_ble_eq_true rfl) (Nat.le_of_ble_eq_true rfl) (Nat.le_of_ble_eq_true rfl) (Nat.le_of_ble_eq_true rfl) hlocks
  · refine lv_iload_n hx hb dX2_out_15 rfl (lv_at hl 3 rfl) ?_
    refine lv_aload_n hx hb dX2_out_16 rfl (lv_at hl 0 rfl) ?_
    refine va_get (D := D) (ci := 0) (v := .int (nI oA)) (C := RX0) (T := TX0) (N := 7) hx hb hts hin0 hown hK hP 6 rfl rfl 3 (by decide) kf81 (fun _ h9 => h9) rfl dX2_out_17 ?_
    refine lv_icmp_lt (tgt := 33) hx hb dX2_out_20 (by decide) (fun c1 => ?_) (fun c1 => ?_)
    · exact absurd c1 (Int32.not_lt.mpr (hx9.resolve_left c0))
    · exact th_S (cls := "java/lang/IndexOutOfBoundsException") (text := "no such output") hx hb hl9 hown (by decide +kernel) (hts (.classLink RX2 120 "java/lang/IndexOutOfBoundsException") (by decide +kernel)) (hts (.initialized "java/lang/IndexOutOfBoundsException") (by decide +kernel)) hgw_io hng_io hgd_io hE (by decide) (by decide) (by rw [hml]; exact hl.1) dX2_out_23 dX2_out_26 dX2_out_27 dX2_out_29 dX2_out_32 hno (Nat.le_of_ble_eq_true rfl) (Nat.le_of_ble_eq_true rfl) (Nat.le_of_ble_eq_true rfl) (Nat.le_of_ble_eq_true rfl) hlocks
set_option maxHeartbeats 4000000 in
set_option maxRecDepth 100000 in
/-- state of side 0 -/
theorem c_X2_state0 (lt : Nat) (hlt : lt < lc) (hlc : lc ≤ 4) (htt : tA < 16) : Met l yX2_state wsX2_state { frames := 1, cells := 0, slots := 0, locals := 21 } (re_P D [(cI, .int), (cJ, .long)] (xW h hn ow fi ma ro ha oa na sa he ob nb sb cI cJ ic lc stp ap cnt len fo ff fk fr oA cA rA tA gA nA sA oB cB rB tB gB nB sB) tp [.ref h, .int 0, .int (nI lt)]) (k2_QcV (.int (nI (tA / 2 ^ lt % 2)))) 0 0 (fun _ => False) := by
  refine Met.ofW (cc := cX2_state) (maxL := 3) (ret := (some .int)) (by decide) rfl ?_
  intro p e s m args below meth c s₁ B hml hv
  obtain ⟨rfl, ⟨hP, hK⟩, hE⟩ := hv
  have hx := B.exec
  have hb := B.bytes
  have hr := B.returns
  have hts := atoms_spec (ws := wsX2_state) B.pre
  have hown : s.vm.findClass RX2 = some m.cls := findClass_of_methodNamed B.named
  have hlocks := B.notSynchronized
  have hl := lv_entry ([.ref h, .int 0, .int (nI lt)]) (n := 3) (Nat.le_of_ble_eq_true rfl)
  rw [lg_entry_eq]
  generalize (lg_sl ([.ref h, .int 0, .int (nI lt)]) ++ List.replicate (3 - (lg_sl ([.ref h, .int 0, .int (nI lt)])).length) Slot.unset).toArray = ls at hl ⊢
  have hl : lv_has ls 3 [(0, .ref h), (1, .int 0), (2, .int (nI lt))] := hl
  have hP : va_P D vwCl [(h, .inr (2, [.ref hn, .ref ha, .ref he, .int (nI ic), .int (nI lc), .int (nI stp), .int ap])), (hn, .inr (1, [.int (nI cnt), .ref ow, .ref fi, .ref ma, .ref ro])), (ow, .inl (cI, 400, .inl fo)), (fi, .inl (cI, 400, .inl ff)), (ma, .inl (cJ, 400, .inr (.inl fk))), (ro, .inl (cJ, len, .inr (.inl fr))), (ha, .inr (0, [.ref oa, .ref na, .ref sa, .int (nI oA), .int (nI cA), .int (nI rA), .int (nI tA)])), (oa, .inl (cI, 16, .inl (fun j => nI (gA j)))), (na, .inl (cI, 4, .inl (fun j => nI (nA j)))), (sa, .inl (cI, 16, .inl sA)), (he, .inr (0, [.ref ob, .ref nb, .ref sb, .int (nI oB), .int (nI cB), .int (nI rB), .int (nI tB)])), (ob, .inl (cI, 16, .inl (fun j => nI (gB j)))), (nb, .inl (cI, 4, .inl (fun j => nI (nB j)))), (sb, .inl (cI, 16, .inl sB))] s.heap := hP
  have hin0 : ∀ w ∈ wsX00, w ∈ wsX2_state := by decide +kernel
  have kf166 := hts (.fieldLink RX2 166 "SweepEqual$Design" "states" "I") (by decide +kernel)
  have hq : tA / 2 ^ lt ≤ tA := Nat.div_le_self _ _
  refine lv_aload_n hx hb dX2_state_0 rfl (lv_at hl 0 rfl) ?_
  refine lv_iload_n hx hb dX2_state_1 rfl (lv_at hl 1 rfl) ?_
  refine rv_V (As := [.int 0]) (rest := []) ⟨hx, hb, hml, hown, hts⟩ (c_X2_needSide l D cI cJ tp h hn ow fi ma ro ha oa na sa he ob nb sb ic lc stp ap cnt len fo ff fk fr oA cA rA tA gA nA sA oB cB rB tB gB nB sB 0 (by decide)) (cwV 1 hts gX2_state_X2_needSide rfl rfl rfl (by decide +kernel) ⟨Nat.le_of_ble_eq_true rfl, Nat.le_of_ble_eq_true rfl⟩) (re_pv (ci := 2) (q0 := 0) hK hP hE rfl rfl) rfl hl.1 rfl (Nat.le_of_ble_eq_true rfl) dX2_state_2 ⟨Nat.zero_le _, Nat.zero_le _⟩ ?_
  refine lv_aload_n hx hb dX2_state_5 rfl (lv_at hl 0 rfl) ?_
  refine lv_iload_n hx hb dX2_state_6 rfl (lv_at hl 2 rfl) ?_
  refine rv_V (As := [.int (nI lt)]) (rest := []) ⟨hx, hb, hml, hown, hts⟩ (c_X2_needLatch l D cI cJ tp h hn ow fi ma ro ha oa na sa he ob nb sb ic lc stp ap cnt len fo ff fk fr oA cA rA tA gA nA sA oB cB rB tB gB nB sB lt hlt (by omega)) (cwV 1 hts gX2_state_X2_needLatch rfl rfl rfl (by decide +kernel) ⟨Nat.le_of_ble_eq_true rfl, Nat.le_of_ble_eq_true rfl⟩) (re_pv (ci := 2) (q0 := 0) hK hP hE rfl rfl) rfl hl.1 rfl (Nat.le_of_ble_eq_true rfl) dX2_state_7 ⟨Nat.zero_le _, Nat.zero_le _⟩ ?_
  refine lv_aload_n hx hb dX2_state_10 rfl (lv_at hl 0 rfl) ?_
  refine lv_iload_n hx hb dX2_state_11 rfl (lv_at hl 1 rfl) ?_
  refine rd_V (As := [.int 0]) (rest := []) ⟨hx, hb, hml, hown, hts⟩ (c_X2_designOf0 l D cI cJ tp h hn ow fi ma ro ha oa na sa he ob nb sb ic lc stp ap cnt len fo ff fk fr oA cA rA tA gA nA sA oB cB rB tB gB nB sB) (cwV 1 hts gX2_state_X2_designOf rfl rfl rfl (by decide +kernel) ⟨Nat.le_of_ble_eq_true rfl, Nat.le_of_ble_eq_true rfl⟩) (re_pv (ci := 2) (q0 := 0) hK hP hE rfl rfl) rfl hl.1 rfl (Nat.le_of_ble_eq_true rfl) dX2_state_12 ⟨Nat.zero_le _, Nat.zero_le _⟩ ?_
  refine va_get (D := D) (ci := 0) (v := .int (nI tA)) (C := RX0) (T := TX0) (N := 7) hx hb hts hin0 hown hK hP 6 rfl rfl 6 (by decide) kf166 (fun _ h9 => h9) rfl dX2_state_15 ?_
  refine lv_iload_n hx hb dX2_state_18 rfl (lv_at hl 2 rfl) ?_
  refine lv_ishr hx hb dX2_state_19 ?_
  refine tp_i (show (nI tA) >>> ((nI lt) &&& 31) = nI (tA / 2 ^ lt) from n_shr (by omega) (by omega)) ?_
  refine lv_iconst (v := nI 1) hx hb dX2_state_20 (by decide) ?_
  refine lv_iand hx hb dX2_state_21 ?_
  refine tp_i (show (nI (tA / 2 ^ lt)) &&& (nI 1) = nI ((tA / 2 ^ lt) % 2) from n_and1 (by omega)) ?_
  exact rd_i hx hb hr hlocks dX2_state_22 (rfl)
set_option maxHeartbeats 4000000 in
set_option maxRecDepth 100000 in
/-- out of side 1 -/
theorem c_X2_out1 (j : Nat) (hj : j < oB) (ho : oB ≤ 16) (hcc : cB ≤ 16) : Met l yX2_out wsX2_out { frames := 1, cells := 0, slots := 0, locals := 21 } (re_P D [(cI, .int), (cJ, .long)] (xW h hn ow fi ma ro ha oa na sa he ob nb sb cI cJ ic lc stp ap cnt len fo ff fk fr oA cA rA tA gA nA sA oB cB rB tB gB nB sB) tp [.ref h, .int 1, .int (nI j)]) (k2_QcV (.int (if j < cB then sB j else -1))) 0 0 (fun _ => False) := by
  refine Met.ofW (cc := cX2_out) (maxL := 4) (ret := (some .int)) (by decide) rfl ?_
  intro p e s m args below meth c s₁ B hml hv
  obtain ⟨rfl, ⟨hP, hK⟩, hE⟩ := hv
  have hx := B.exec
  have hb := B.bytes
  have hr := B.returns
  have hts := atoms_spec (ws := wsX2_out) B.pre
  have hown : s.vm.findClass RX2 = some m.cls := findClass_of_methodNamed B.named
  have hlocks := B.notSynchronized
  have hl := lv_entry ([.ref h, .int 1, .int (nI j)]) (n := 4) (Nat.le_of_ble_eq_true rfl)
  rw [lg_entry_eq]
  generalize (lg_sl ([.ref h, .int 1, .int (nI j)]) ++ List.replicate (4 - (lg_sl ([.ref h, .int 1, .int (nI j)])).length) Slot.unset).toArray = ls at hl ⊢
  have hl : lv_has ls 4 [(0, .ref h), (1, .int 1), (2, .int (nI j))] := hl
  have hP : va_P D vwCl [(h, .inr (2, [.ref hn, .ref ha, .ref he, .int (nI ic), .int (nI lc), .int (nI stp), .int ap])), (hn, .inr (1, [.int (nI cnt), .ref ow, .ref fi, .ref ma, .ref ro])), (ow, .inl (cI, 400, .inl fo)), (fi, .inl (cI, 400, .inl ff)), (ma, .inl (cJ, 400, .inr (.inl fk))), (ro, .inl (cJ, len, .inr (.inl fr))), (ha, .inr (0, [.ref oa, .ref na, .ref sa, .int (nI oA), .int (nI cA), .int (nI rA), .int (nI tA)])), (oa, .inl (cI, 16, .inl (fun j => nI (gA j)))), (na, .inl (cI, 4, .inl (fun j => nI (nA j)))), (sa, .inl (cI, 16, .inl sA)), (he, .inr (0, [.ref ob, .ref nb, .ref sb, .int (nI oB), .int (nI cB), .int (nI rB), .int (nI tB)])), (ob, .inl (cI, 16, .inl (fun j => nI (gB j)))), (nb, .inl (cI, 4, .inl (fun j => nI (nB j)))), (sb, .inl (cI, 16, .inl sB))] s.heap := hP
  have hin0 : ∀ w ∈ wsX00, w ∈ wsX2_out := by decide +kernel
  have kf81 := hts (.fieldLink RX2 81 "SweepEqual$Design" "outputCount" "I") (by decide +kernel)
  have kf160 := hts (.fieldLink RX2 160 "SweepEqual$Design" "shownCount" "I") (by decide +kernel)
  have kf163 := hts (.fieldLink RX2 163 "SweepEqual$Design" "shown" "[I") (by decide +kernel)
  refine lv_aload_n hx hb dX2_out_0 rfl (lv_at hl 0 rfl) ?_
  refine lv_iload_n hx hb dX2_out_1 rfl (lv_at hl 1 rfl) ?_
  refine rv_V (As := [.int 1]) (rest := []) ⟨hx, hb, hml, hown, hts⟩ (c_X2_needSide l D cI cJ tp h hn ow fi ma ro ha oa na sa he ob nb sb ic lc stp ap cnt len fo ff fk fr oA cA rA tA gA nA sA oB cB rB tB gB nB sB 1 (by decide)) (cwV 1 hts gX2_out_X2_needSide rfl rfl rfl (by decide +kernel) ⟨Nat.le_of_ble_eq_true rfl, Nat.le_of_ble_eq_true rfl⟩) (re_pv (ci := 2) (q0 := 0) hK hP hE rfl rfl) rfl hl.1 rfl (Nat.le_of_ble_eq_true rfl) dX2_out_2 ⟨Nat.zero_le _, Nat.zero_le _⟩ ?_
  refine lv_aload_n hx hb dX2_out_5 rfl (lv_at hl 0 rfl) ?_
  refine lv_iload_n hx hb dX2_out_6 rfl (lv_at hl 1 rfl) ?_
  refine rd_V (As := [.int 1]) (rest := []) ⟨hx, hb, hml, hown, hts⟩ (c_X2_designOf1 l D cI cJ tp h hn ow fi ma ro ha oa na sa he ob nb sb ic lc stp ap cnt len fo ff fk fr oA cA rA tA gA nA sA oB cB rB tB gB nB sB) (cwV 1 hts gX2_out_X2_designOf rfl rfl rfl (by decide +kernel) ⟨Nat.le_of_ble_eq_true rfl, Nat.le_of_ble_eq_true rfl⟩) (re_pv (ci := 2) (q0 := 0) hK hP hE rfl rfl) rfl hl.1 rfl (Nat.le_of_ble_eq_true rfl) dX2_out_7 ⟨Nat.zero_le _, Nat.zero_le _⟩ ?_
  refine lv_astore_n (lv' := [(3, .ref he), (0, .ref h), (1, .int 1), (2, .int (nI j))]) hx hb dX2_out_10 rfl hl (by decide) rfl (fun ls hl => ?_)
  refine lv_iload_n hx hb dX2_out_11 rfl (lv_at hl 3 rfl) ?_
  refine lv_if_lt (tgt := 23) hx hb dX2_out_12 (by decide) (fun c0 => ?_) (fun c0 => ?_)
  · exact absurd c0 (nI_pos (by omega))
  · refine lv_iload_n hx hb dX2_out_15 rfl (lv_at hl 3 rfl) ?_
    refine lv_aload_n hx hb dX2_out_16 rfl (lv_at hl 0 rfl) ?_
    refine va_get (D := D) (ci := 0) (v := .int (nI oB)) (C := RX0) (T := TX0) (N := 7) hx hb hts hin0 hown hK hP 10 rfl rfl 3 (by decide) kf81 (fun _ h9 => h9) rfl dX2_out_17 ?_
    refine lv_icmp_lt (tgt := 33) hx hb dX2_out_20 (by decide) (fun c1 => ?_) (fun c1 => ?_)
    · have c1 : j < oB := (nI_ltI (by omega) (by omega)).mp c1
      refine lv_iload_n hx hb dX2_out_33 rfl (lv_at hl 3 rfl) ?_
      refine lv_aload_n hx hb dX2_out_34 rfl (lv_at hl 0 rfl) ?_
      refine va_get (D := D) (ci := 0) (v := .int (nI cB)) (C := RX0) (T := TX0) (N := 7) hx hb hts hin0 hown hK hP 10 rfl rfl 4 (by decide) kf160 (fun _ h9 => h9) rfl dX2_out_35 ?_
      refine lv_icmp_ge (tgt := 50) hx hb dX2_out_38 (by decide) (fun c2 => ?_) (fun c2 => ?_)
      · have c2 : cB ≤ j := (nI_leI (by omega) (by omega)).mp c2
        refine lv_iconst (v := -1) hx hb dX2_out_50 (by decide) ?_
        exact rd_i hx hb hr hlocks dX2_out_51 (by rw [if_neg (by omega)])
      · have c2 : ¬ (cB ≤ j) := fun h => c2 ((nI_leI (by omega) (by omega)).mpr h)
        refine lv_aload_n hx hb dX2_out_41 rfl (lv_at hl 0 rfl) ?_
        refine va_get (D := D) (ci := 0) (v := .ref sb) (C := RX0) (T := TX0) (N := 7) hx hb hts hin0 hown hK hP 10 rfl rfl 2 (by decide) kf163 (fun _ h9 => h9) rfl dX2_out_42 ?_
        refine lv_iload_n hx hb dX2_out_45 rfl (lv_at hl 3 rfl) ?_
        refine va_iald hx hb hK hP 13 0 rfl rfl (vp_in_nI (by omega) (by omega)) dX2_out_46 ?_
        refine tp_i (show sB (nI j).toNatClampNeg = sB j from congrArg sB (nI_clamp (by omega))) ?_
        refine lv_goto (tgt := 51) hx hb dX2_out_47 (by decide) ?_
        exact rd_i hx hb hr hlocks dX2_out_51 (by rw [if_pos (by omega)])
    · have c1 : ¬ (j < oB) := fun h => c1 ((nI_ltI (by omega) (by omega)).mpr h)
      exact absurd hj c1
set_option maxHeartbeats 4000000 in
set_option maxRecDepth 100000 in
/-- out: no such output of side 1 -/
theorem t_X2_out2_1 (hl9 : l.stackTraces = false) (x : Int32) (hx9 : x < 0 ∨ nI oB ≤ x) : TH l yX2_out wsX2_out { frames := 6, cells := 1, slots := 6, locals := 82 } (re_P D [(cI, .int), (cJ, .long)] (xW h hn ow fi ma ro ha oa na sa he ob nb sb cI cJ ic lc stp ap cnt len fo ff fk fr oA cA rA tA gA nA sA oB cB rB tB gB nB sB) tp [.ref h, .int 1, .int x]) "java/lang/IndexOutOfBoundsException" := by
  refine vx_ofW (cc := cX2_out) (maxL := 4) (ret := (some .int)) (by decide) rfl ?_
  intro p e s m args below meth c s₁ B hml hno hv
  obtain ⟨rfl, ⟨hP, hK⟩, hE⟩ := hv
  have hx := B.exec
  have hb := B.bytes
  have hr := B.returns
  have hts := atoms_spec (ws := wsX2_out) B.pre
  have hown : s.vm.findClass RX2 = some m.cls := findClass_of_methodNamed B.named
  have hlocks := B.notSynchronized
  have hl := lv_entry ([.ref h, .int 1, .int x]) (n := 4) (Nat.le_of_ble_eq_true rfl)
  rw [lg_entry_eq]
  generalize (lg_sl ([.ref h, .int 1, .int x]) ++ List.replicate (4 - (lg_sl ([.ref h, .int 1, .int x])).length) Slot.unset).toArray = ls at hl ⊢
  have hl : lv_has ls 4 [(0, .ref h), (1, .int 1), (2, .int x)] := hl
  have hP : va_P D vwCl [(h, .inr (2, [.ref hn, .ref ha, .ref he, .int (nI ic), .int (nI lc), .int (nI stp), .int ap])), (hn, .inr (1, [.int (nI cnt), .ref ow, .ref fi, .ref ma, .ref ro])), (ow, .inl (cI, 400, .inl fo)), (fi, .inl (cI, 400, .inl ff)), (ma, .inl (cJ, 400, .inr (.inl fk))), (ro, .inl (cJ, len, .inr (.inl fr))), (ha, .inr (0, [.ref oa, .ref na, .ref sa, .int (nI oA), .int (nI cA), .int (nI rA), .int (nI tA)])), (oa, .inl (cI, 16, .inl (fun j => nI (gA j)))), (na, .inl (cI, 4, .inl (fun j => nI (nA j)))), (sa, .inl (cI, 16, .inl sA)), (he, .inr (0, [.ref ob, .ref nb, .ref sb, .int (nI oB), .int (nI cB), .int (nI rB), .int (nI tB)])), (ob, .inl (cI, 16, .inl (fun j => nI (gB j)))), (nb, .inl (cI, 4, .inl (fun j => nI (nB j)))), (sb, .inl (cI, 16, .inl sB))] s.heap := hP
  have hin0 : ∀ w ∈ wsX00, w ∈ wsX2_out := by decide +kernel
  have kf81 := hts (.fieldLink RX2 81 "SweepEqual$Design" "outputCount" "I") (by decide +kernel)
  have kf160 := hts (.fieldLink RX2 160 "SweepEqual$Design" "shownCount" "I") (by decide +kernel)
  have kf163 := hts (.fieldLink RX2 163 "SweepEqual$Design" "shown" "[I") (by decide +kernel)
  have hgw_io : ∀ w ∈ (vx_atS RX2 124 "java/lang/IndexOutOfBoundsException" xN).filter goodWord, w.before ([.ref h, .int 1, .int x] : List Value).toArray s = true := fun w hw => hts w (inX_X2_out_io w hw)
  refine lv_aload_n hx hb dX2_out_0 rfl (lv_at hl 0 rfl) ?_
  refine lv_iload_n hx hb dX2_out_1 rfl (lv_at hl 1 rfl) ?_
  refine rv_V (As := [.int 1]) (rest := []) ⟨hx, hb, hml, hown, hts⟩ (c_X2_needSide l D cI cJ tp h hn ow fi ma ro ha oa na sa he ob nb sb ic lc stp ap cnt len fo ff fk fr oA cA rA tA gA nA sA oB cB rB tB gB nB sB 1 (by decide)) (cwV 1 hts gX2_out_X2_needSide rfl rfl rfl (by decide +kernel) ⟨Nat.le_of_ble_eq_true rfl, Nat.le_of_ble_eq_true rfl⟩) (re_pv (ci := 2) (q0 := 0) hK hP hE rfl rfl) rfl hl.1 rfl (Nat.le_of_ble_eq_true rfl) dX2_out_2 ⟨Nat.zero_le _, Nat.zero_le _⟩ ?_
  refine lv_aload_n hx hb dX2_out_5 rfl (lv_at hl 0 rfl) ?_
  refine lv_iload_n hx hb dX2_out_6 rfl (lv_at hl 1 rfl) ?_
  refine rd_V (As := [.int 1]) (rest := []) ⟨hx, hb, hml, hown, hts⟩ (c_X2_designOf1 l D cI cJ tp h hn ow fi ma ro ha oa na sa he ob nb sb ic lc stp ap cnt len fo ff fk fr oA cA rA tA gA nA sA oB cB rB tB gB nB sB) (cwV 1 hts gX2_out_X2_designOf rfl rfl rfl (by decide +kernel) ⟨Nat.le_of_ble_eq_true rfl, Nat.le_of_ble_eq_true rfl⟩) (re_pv (ci := 2) (q0 := 0) hK hP hE rfl rfl) rfl hl.1 rfl (Nat.le_of_ble_eq_true rfl) dX2_out_7 ⟨Nat.zero_le _, Nat.zero_le _⟩ ?_
  refine lv_astore_n (lv' := [(3, .ref he), (0, .ref h), (1, .int 1), (2, .int x)]) hx hb dX2_out_10 rfl hl (by decide) rfl (fun ls hl => ?_)
  refine lv_iload_n hx hb dX2_out_11 rfl (lv_at hl 3 rfl) ?_
  refine lv_if_lt (tgt := 23) hx hb dX2_out_12 (by decide) (fun c0 => ?_) (fun c0 => ?_)
  · exact th_S (cls := "java/lang/IndexOutOfBoundsException") (text := "no such output") hx hb hl9 hown (by decide +kernel) (hts (.classLink RX2 120 "java/lang/IndexOutOfBoundsException") (by decide +kernel)) (hts (.initialized "java/lang/IndexOutOfBoundsException") (by decide +kernel)) hgw_io hng_io hgd_io hE (by decide) (by decide) (by rw [hml]; exact hl.1) dX2_out_23 dX2_out_26 dX2_out_27 dX2_out_29 dX2_out_32 hno (Nat.le_of_ble_eq_true rfl) (Nat.le_of_ble_eq_true rfl) (Nat.le_of_ble_eq_true rfl) (Nat.le_of_ble_eq_true rfl) hlocks
  · refine lv_iload_n hx hb dX2_out_15 rfl (lv_at hl 3 rfl) ?_
    refine lv_aload_n hx hb dX2_out_16 rfl (lv_at hl 0 rfl) ?_
    refine va_get (D := D) (ci := 0) (v := .int (nI oB)) (C := RX0) (T := TX0) (N := 7) hx hb hts hin0 hown hK hP 10 rfl rfl 3 (by decide) kf81 (fun _ h9 => h9) rfl dX2_out_17 ?_
    refine lv_icmp_lt (tgt := 33) hx hb dX2_out_20 (by decide) (fun c1 => ?_) (fun c1 => ?_)
    · exact absurd c1 (Int32.not_lt.mpr (hx9.resolve_left c0))
    · exact th_S (cls := "java/lang/IndexOutOfBoundsException") (text := "no such output") hx hb hl9 hown (by decide +kernel) (hts (.classLink RX2 120 "java/lang/IndexOutOfBoundsException") (by decide +kernel)) (hts (.initialized "java/lang/IndexOutOfBoundsException") (by decide +kernel)) hgw_io hng_io hgd_io hE (by decide) (by decide) (by rw [hml]; exact hl.1) dX2_out_23 dX2_out_26 dX2_out_27 dX2_out_29 dX2_out_32 hno (Nat.le_of_ble_eq_true rfl) (Nat.le_of_ble_eq_true rfl) (Nat.le_of_ble_eq_true rfl) (Nat.le_of_ble_eq_true rfl) hlocks
set_option maxHeartbeats 4000000 in
set_option maxRecDepth 100000 in
/-- state of side 1 -/
theorem c_X2_state1 (lt : Nat) (hlt : lt < lc) (hlc : lc ≤ 4) (htt : tB < 16) : Met l yX2_state wsX2_state { frames := 1, cells := 0, slots := 0, locals := 21 } (re_P D [(cI, .int), (cJ, .long)] (xW h hn ow fi ma ro ha oa na sa he ob nb sb cI cJ ic lc stp ap cnt len fo ff fk fr oA cA rA tA gA nA sA oB cB rB tB gB nB sB) tp [.ref h, .int 1, .int (nI lt)]) (k2_QcV (.int (nI (tB / 2 ^ lt % 2)))) 0 0 (fun _ => False) := by
  refine Met.ofW (cc := cX2_state) (maxL := 3) (ret := (some .int)) (by decide) rfl ?_
  intro p e s m args below meth c s₁ B hml hv
  obtain ⟨rfl, ⟨hP, hK⟩, hE⟩ := hv
  have hx := B.exec
  have hb := B.bytes
  have hr := B.returns
  have hts := atoms_spec (ws := wsX2_state) B.pre
  have hown : s.vm.findClass RX2 = some m.cls := findClass_of_methodNamed B.named
  have hlocks := B.notSynchronized
  have hl := lv_entry ([.ref h, .int 1, .int (nI lt)]) (n := 3) (Nat.le_of_ble_eq_true rfl)
  rw [lg_entry_eq]
  generalize (lg_sl ([.ref h, .int 1, .int (nI lt)]) ++ List.replicate (3 - (lg_sl ([.ref h, .int 1, .int (nI lt)])).length) Slot.unset).toArray = ls at hl ⊢
  have hl : lv_has ls 3 [(0, .ref h), (1, .int 1), (2, .int (nI lt))] := hl
  have hP : va_P D vwCl [(h, .inr (2, [.ref hn, .ref ha, .ref he, .int (nI ic), .int (nI lc), .int (nI stp), .int ap])), (hn, .inr (1, [.int (nI cnt), .ref ow, .ref fi, .ref ma, .ref ro])), (ow, .inl (cI, 400, .inl fo)), (fi, .inl (cI, 400, .inl ff)), (ma, .inl (cJ, 400, .inr (.inl fk))), (ro, .inl (cJ, len, .inr (.inl fr))), (ha, .inr (0, [.ref oa, .ref na, .ref sa, .int (nI oA), .int (nI cA), .int (nI rA), .int (nI tA)])), (oa, .inl (cI, 16, .inl (fun j => nI (gA j)))), (na, .inl (cI, 4, .inl (fun j => nI (nA j)))), (sa, .inl (cI, 16, .inl sA)), (he, .inr (0, [.ref ob, .ref nb, .ref sb, .int (nI oB), .int (nI cB), .int (nI rB), .int (nI tB)])), (ob, .inl (cI, 16, .inl (fun j => nI (gB j)))), (nb, .inl (cI, 4, .inl (fun j => nI (nB j)))), (sb, .inl (cI, 16, .inl sB))] s.heap := hP
  have hin0 : ∀ w ∈ wsX00, w ∈ wsX2_state := by decide +kernel
  have kf166 := hts (.fieldLink RX2 166 "SweepEqual$Design" "states" "I") (by decide +kernel)
  have hq : tB / 2 ^ lt ≤ tB := Nat.div_le_self _ _
  refine lv_aload_n hx hb dX2_state_0 rfl (lv_at hl 0 rfl) ?_
  refine lv_iload_n hx hb dX2_state_1 rfl (lv_at hl 1 rfl) ?_
  refine rv_V (As := [.int 1]) (rest := []) ⟨hx, hb, hml, hown, hts⟩ (c_X2_needSide l D cI cJ tp h hn ow fi ma ro ha oa na sa he ob nb sb ic lc stp ap cnt len fo ff fk fr oA cA rA tA gA nA sA oB cB rB tB gB nB sB 1 (by decide)) (cwV 1 hts gX2_state_X2_needSide rfl rfl rfl (by decide +kernel) ⟨Nat.le_of_ble_eq_true rfl, Nat.le_of_ble_eq_true rfl⟩) (re_pv (ci := 2) (q0 := 0) hK hP hE rfl rfl) rfl hl.1 rfl (Nat.le_of_ble_eq_true rfl) dX2_state_2 ⟨Nat.zero_le _, Nat.zero_le _⟩ ?_
  refine lv_aload_n hx hb dX2_state_5 rfl (lv_at hl 0 rfl) ?_
  refine lv_iload_n hx hb dX2_state_6 rfl (lv_at hl 2 rfl) ?_
  refine rv_V (As := [.int (nI lt)]) (rest := []) ⟨hx, hb, hml, hown, hts⟩ (c_X2_needLatch l D cI cJ tp h hn ow fi ma ro ha oa na sa he ob nb sb ic lc stp ap cnt len fo ff fk fr oA cA rA tA gA nA sA oB cB rB tB gB nB sB lt hlt (by omega)) (cwV 1 hts gX2_state_X2_needLatch rfl rfl rfl (by decide +kernel) ⟨Nat.le_of_ble_eq_true rfl, Nat.le_of_ble_eq_true rfl⟩) (re_pv (ci := 2) (q0 := 0) hK hP hE rfl rfl) rfl hl.1 rfl (Nat.le_of_ble_eq_true rfl) dX2_state_7 ⟨Nat.zero_le _, Nat.zero_le _⟩ ?_
  refine lv_aload_n hx hb dX2_state_10 rfl (lv_at hl 0 rfl) ?_
  refine lv_iload_n hx hb dX2_state_11 rfl (lv_at hl 1 rfl) ?_
  refine rd_V (As := [.int 1]) (rest := []) ⟨hx, hb, hml, hown, hts⟩ (c_X2_designOf1 l D cI cJ tp h hn ow fi ma ro ha oa na sa he ob nb sb ic lc stp ap cnt len fo ff fk fr oA cA rA tA gA nA sA oB cB rB tB gB nB sB) (cwV 1 hts gX2_state_X2_designOf rfl rfl rfl (by decide +kernel) ⟨Nat.le_of_ble_eq_true rfl, Nat.le_of_ble_eq_true rfl⟩) (re_pv (ci := 2) (q0 := 0) hK hP hE rfl rfl) rfl hl.1 rfl (Nat.le_of_ble_eq_true rfl) dX2_state_12 ⟨Nat.zero_le _, Nat.zero_le _⟩ ?_
  refine va_get (D := D) (ci := 0) (v := .int (nI tB)) (C := RX0) (T := TX0) (N := 7) hx hb hts hin0 hown hK hP 10 rfl rfl 6 (by decide) kf166 (fun _ h9 => h9) rfl dX2_state_15 ?_
  refine lv_iload_n hx hb dX2_state_18 rfl (lv_at hl 2 rfl) ?_
  refine lv_ishr hx hb dX2_state_19 ?_
  refine tp_i (show (nI tB) >>> ((nI lt) &&& 31) = nI (tB / 2 ^ lt) from n_shr (by omega) (by omega)) ?_
  refine lv_iconst (v := nI 1) hx hb dX2_state_20 (by decide) ?_
  refine lv_iand hx hb dX2_state_21 ?_
  refine tp_i (show (nI (tB / 2 ^ lt)) &&& (nI 1) = nI ((tB / 2 ^ lt) % 2) from n_and1 (by omega)) ?_
  exact rd_i hx hb hr hlocks dX2_state_22 (rfl)
set_option maxHeartbeats 4000000 in
set_option maxRecDepth 100000 in
/-- out: no such side -/
theorem t_X2_out1 (hl9 : l.stackTraces = false) (y : Int32) (sd : Int32) (hs : ¬ (sd = 0 ∨ sd = 1)) : TH l yX2_out wsX2_out { frames := 7, cells := 1, slots := 6, locals := 103 } (re_P D [(cI, .int), (cJ, .long)] (xW h hn ow fi ma ro ha oa na sa he ob nb sb cI cJ ic lc stp ap cnt len fo ff fk fr oA cA rA tA gA nA sA oB cB rB tB gB nB sB) tp [.ref h, .int sd, .int y]) "java/lang/IndexOutOfBoundsException" := by
  refine vx_ofW (cc := cX2_out) (maxL := 4) (ret := (some .int)) (by decide) rfl ?_
  intro p e s m args below meth c s₁ B hml hno hv
  obtain ⟨rfl, ⟨hP, hK⟩, hE⟩ := hv
  have hx := B.exec
  have hb := B.bytes
  have hr := B.returns
  have hts := atoms_spec (ws := wsX2_out) B.pre
  have hown : s.vm.findClass RX2 = some m.cls := findClass_of_methodNamed B.named
  have hlocks := B.notSynchronized
  have hl := lv_entry ([.ref h, .int sd, .int y]) (n := 4) (Nat.le_of_ble_eq_true rfl)
  rw [lg_entry_eq]
  generalize (lg_sl ([.ref h, .int sd, .int y]) ++ List.replicate (4 - (lg_sl ([.ref h, .int sd, .int y])).length) Slot.unset).toArray = ls at hl ⊢
  have hl : lv_has ls 4 [(0, .ref h), (1, .int sd), (2, .int y)] := hl
  have hP : va_P D vwCl [(h, .inr (2, [.ref hn, .ref ha, .ref he, .int (nI ic), .int (nI lc), .int (nI stp), .int ap])), (hn, .inr (1, [.int (nI cnt), .ref ow, .ref fi, .ref ma, .ref ro])), (ow, .inl (cI, 400, .inl fo)), (fi, .inl (cI, 400, .inl ff)), (ma, .inl (cJ, 400, .inr (.inl fk))), (ro, .inl (cJ, len, .inr (.inl fr))), (ha, .inr (0, [.ref oa, .ref na, .ref sa, .int (nI oA), .int (nI cA), .int (nI rA), .int (nI tA)])), (oa, .inl (cI, 16, .inl (fun j => nI (gA j)))), (na, .inl (cI, 4, .inl (fun j => nI (nA j)))), (sa, .inl (cI, 16, .inl sA)), (he, .inr (0, [.ref ob, .ref nb, .ref sb, .int (nI oB), .int (nI cB), .int (nI rB), .int (nI tB)])), (ob, .inl (cI, 16, .inl (fun j => nI (gB j)))), (nb, .inl (cI, 4, .inl (fun j => nI (nB j)))), (sb, .inl (cI, 16, .inl sB))] s.heap := hP
  have hin0 : ∀ w ∈ wsX00, w ∈ wsX2_out := by decide +kernel
  have kf81 := hts (.fieldLink RX2 81 "SweepEqual$Design" "outputCount" "I") (by decide +kernel)
  have kf160 := hts (.fieldLink RX2 160 "SweepEqual$Design" "shownCount" "I") (by decide +kernel)
  have kf163 := hts (.fieldLink RX2 163 "SweepEqual$Design" "shown" "[I") (by decide +kernel)
  refine lv_aload_n hx hb dX2_out_0 rfl (lv_at hl 0 rfl) ?_
  refine lv_iload_n hx hb dX2_out_1 rfl (lv_at hl 1 rfl) ?_
  exact th_V (As := [.int sd]) (rest := []) ⟨hx, hb, hml, hown, hts⟩ (t_X2_needSide l D cI cJ tp h hn ow fi ma ro ha oa na sa he ob nb sb ic lc stp ap cnt len fo ff fk fr oA cA rA tA gA nA sA oB cB rB tB gB nB sB hl9 sd hs) (cwV 1 hts gX2_out_X2_needSide rfl rfl rfl (by decide +kernel) ⟨Nat.le_of_ble_eq_true rfl, Nat.le_of_ble_eq_true rfl⟩) (re_pv (ci := 2) (q0 := 0) hK hP hE rfl rfl) rfl hl.1 rfl (Nat.le_of_ble_eq_true rfl) dX2_out_2 ⟨Nat.le_of_ble_eq_true rfl, Nat.le_of_ble_eq_true rfl⟩ hno hlocks
set_option maxHeartbeats 4000000 in
set_option maxRecDepth 100000 in
/-- state: no such side -/
theorem t_X2_state1 (hl9 : l.stackTraces = false) (y : Int32) (sd : Int32) (hs : ¬ (sd = 0 ∨ sd = 1)) : TH l yX2_state wsX2_state { frames := 7, cells := 1, slots := 6, locals := 103 } (re_P D [(cI, .int), (cJ, .long)] (xW h hn ow fi ma ro ha oa na sa he ob nb sb cI cJ ic lc stp ap cnt len fo ff fk fr oA cA rA tA gA nA sA oB cB rB tB gB nB sB) tp [.ref h, .int sd, .int y]) "java/lang/IndexOutOfBoundsException" := by
  refine vx_ofW (cc := cX2_state) (maxL := 3) (ret := (some .int)) (by decide) rfl ?_
  intro p e s m args below meth c s₁ B hml hno hv
  obtain ⟨rfl, ⟨hP, hK⟩, hE⟩ := hv
  have hx := B.exec
  have hb := B.bytes
  have hr := B.returns
  have hts := atoms_spec (ws := wsX2_state) B.pre
  have hown : s.vm.findClass RX2 = some m.cls := findClass_of_methodNamed B.named
  have hlocks := B.notSynchronized
  have hl := lv_entry ([.ref h, .int sd, .int y]) (n := 3) (Nat.le_of_ble_eq_true rfl)
  rw [lg_entry_eq]
  generalize (lg_sl ([.ref h, .int sd, .int y]) ++ List.replicate (3 - (lg_sl ([.ref h, .int sd, .int y])).length) Slot.unset).toArray = ls at hl ⊢
  have hl : lv_has ls 3 [(0, .ref h), (1, .int sd), (2, .int y)] := hl
  have hP : va_P D vwCl [(h, .inr (2, [.ref hn, .ref ha, .ref he, .int (nI ic), .int (nI lc), .int (nI stp), .int ap])), (hn, .inr (1, [.int (nI cnt), .ref ow, .ref fi, .ref ma, .ref ro])), (ow, .inl (cI, 400, .inl fo)), (fi, .inl (cI, 400, .inl ff)), (ma, .inl (cJ, 400, .inr (.inl fk))), (ro, .inl (cJ, len, .inr (.inl fr))), (ha, .inr (0, [.ref oa, .ref na, .ref sa, .int (nI oA), .int (nI cA), .int (nI rA), .int (nI tA)])), (oa, .inl (cI, 16, .inl (fun j => nI (gA j)))), (na, .inl (cI, 4, .inl (fun j => nI (nA j)))), (sa, .inl (cI, 16, .inl sA)), (he, .inr (0, [.ref ob, .ref nb, .ref sb, .int (nI oB), .int (nI cB), .int (nI rB), .int (nI tB)])), (ob, .inl (cI, 16, .inl (fun j => nI (gB j)))), (nb, .inl (cI, 4, .inl (fun j => nI (nB j)))), (sb, .inl (cI, 16, .inl sB))] s.heap := hP
  have hin0 : ∀ w ∈ wsX00, w ∈ wsX2_state := by decide +kernel
  have kf166 := hts (.fieldLink RX2 166 "SweepEqual$Design" "states" "I") (by decide +kernel)
  refine lv_aload_n hx hb dX2_state_0 rfl (lv_at hl 0 rfl) ?_
  refine lv_iload_n hx hb dX2_state_1 rfl (lv_at hl 1 rfl) ?_
  exact th_V (As := [.int sd]) (rest := []) ⟨hx, hb, hml, hown, hts⟩ (t_X2_needSide l D cI cJ tp h hn ow fi ma ro ha oa na sa he ob nb sb ic lc stp ap cnt len fo ff fk fr oA cA rA tA gA nA sA oB cB rB tB gB nB sB hl9 sd hs) (cwV 1 hts gX2_state_X2_needSide rfl rfl rfl (by decide +kernel) ⟨Nat.le_of_ble_eq_true rfl, Nat.le_of_ble_eq_true rfl⟩) (re_pv (ci := 2) (q0 := 0) hK hP hE rfl rfl) rfl hl.1 rfl (Nat.le_of_ble_eq_true rfl) dX2_state_2 ⟨Nat.le_of_ble_eq_true rfl, Nat.le_of_ble_eq_true rfl⟩ hno hlocks
set_option maxHeartbeats 4000000 in
set_option maxRecDepth 100000 in
/-- state: no such latch -/
theorem t_X2_state2 (hl9 : l.stackTraces = false) (sd x : Int32) (hs : sd = 0 ∨ sd = 1) (hx9 : x < 0 ∨ nI lc ≤ x) : TH l yX2_state wsX2_state { frames := 7, cells := 1, slots := 6, locals := 103 } (re_P D [(cI, .int), (cJ, .long)] (xW h hn ow fi ma ro ha oa na sa he ob nb sb cI cJ ic lc stp ap cnt len fo ff fk fr oA cA rA tA gA nA sA oB cB rB tB gB nB sB) tp [.ref h, .int sd, .int x]) "java/lang/IndexOutOfBoundsException" := by
  refine vx_ofW (cc := cX2_state) (maxL := 3) (ret := (some .int)) (by decide) rfl ?_
  intro p e s m args below meth c s₁ B hml hno hv
  obtain ⟨rfl, ⟨hP, hK⟩, hE⟩ := hv
  have hx := B.exec
  have hb := B.bytes
  have hr := B.returns
  have hts := atoms_spec (ws := wsX2_state) B.pre
  have hown : s.vm.findClass RX2 = some m.cls := findClass_of_methodNamed B.named
  have hlocks := B.notSynchronized
  have hl := lv_entry ([.ref h, .int sd, .int x]) (n := 3) (Nat.le_of_ble_eq_true rfl)
  rw [lg_entry_eq]
  generalize (lg_sl ([.ref h, .int sd, .int x]) ++ List.replicate (3 - (lg_sl ([.ref h, .int sd, .int x])).length) Slot.unset).toArray = ls at hl ⊢
  have hl : lv_has ls 3 [(0, .ref h), (1, .int sd), (2, .int x)] := hl
  have hP : va_P D vwCl [(h, .inr (2, [.ref hn, .ref ha, .ref he, .int (nI ic), .int (nI lc), .int (nI stp), .int ap])), (hn, .inr (1, [.int (nI cnt), .ref ow, .ref fi, .ref ma, .ref ro])), (ow, .inl (cI, 400, .inl fo)), (fi, .inl (cI, 400, .inl ff)), (ma, .inl (cJ, 400, .inr (.inl fk))), (ro, .inl (cJ, len, .inr (.inl fr))), (ha, .inr (0, [.ref oa, .ref na, .ref sa, .int (nI oA), .int (nI cA), .int (nI rA), .int (nI tA)])), (oa, .inl (cI, 16, .inl (fun j => nI (gA j)))), (na, .inl (cI, 4, .inl (fun j => nI (nA j)))), (sa, .inl (cI, 16, .inl sA)), (he, .inr (0, [.ref ob, .ref nb, .ref sb, .int (nI oB), .int (nI cB), .int (nI rB), .int (nI tB)])), (ob, .inl (cI, 16, .inl (fun j => nI (gB j)))), (nb, .inl (cI, 4, .inl (fun j => nI (nB j)))), (sb, .inl (cI, 16, .inl sB))] s.heap := hP
  have hin0 : ∀ w ∈ wsX00, w ∈ wsX2_state := by decide +kernel
  have kf166 := hts (.fieldLink RX2 166 "SweepEqual$Design" "states" "I") (by decide +kernel)
  refine lv_aload_n hx hb dX2_state_0 rfl (lv_at hl 0 rfl) ?_
  refine lv_iload_n hx hb dX2_state_1 rfl (lv_at hl 1 rfl) ?_
  refine rv_V (As := [.int sd]) (rest := []) ⟨hx, hb, hml, hown, hts⟩ (c_X2_needSide l D cI cJ tp h hn ow fi ma ro ha oa na sa he ob nb sb ic lc stp ap cnt len fo ff fk fr oA cA rA tA gA nA sA oB cB rB tB gB nB sB sd hs) (cwV 1 hts gX2_state_X2_needSide rfl rfl rfl (by decide +kernel) ⟨Nat.le_of_ble_eq_true rfl, Nat.le_of_ble_eq_true rfl⟩) (re_pv (ci := 2) (q0 := 0) hK hP hE rfl rfl) rfl hl.1 rfl (Nat.le_of_ble_eq_true rfl) dX2_state_2 ⟨Nat.zero_le _, Nat.zero_le _⟩ ?_
  refine lv_aload_n hx hb dX2_state_5 rfl (lv_at hl 0 rfl) ?_
  refine lv_iload_n hx hb dX2_state_6 rfl (lv_at hl 2 rfl) ?_
  exact th_V (As := [.int x]) (rest := []) ⟨hx, hb, hml, hown, hts⟩ (t_X2_needLatch l D cI cJ tp h hn ow fi ma ro ha oa na sa he ob nb sb ic lc stp ap cnt len fo ff fk fr oA cA rA tA gA nA sA oB cB rB tB gB nB sB hl9 x hx9) (cwV 1 hts gX2_state_X2_needLatch rfl rfl rfl (by decide +kernel) ⟨Nat.le_of_ble_eq_true rfl, Nat.le_of_ble_eq_true rfl⟩) (re_pv (ci := 2) (q0 := 0) hK hP hE rfl rfl) rfl hl.1 rfl (Nat.le_of_ble_eq_true rfl) dX2_state_7 ⟨Nat.le_of_ble_eq_true rfl, Nat.le_of_ble_eq_true rfl⟩ hno hlocks
set_option maxHeartbeats 4000000 in
set_option maxRecDepth 100000 in
/-- count 0 -/
theorem c_X2_count0 (hc : cnt ≤ 400) : Met l yX2_count wsX2_count { frames := 1, cells := 0, slots := 0, locals := 23 } (re_P D [(cI, .int), (cJ, .long)] (xW h hn ow fi ma ro ha oa na sa he ob nb sb cI cJ ic lc stp ap cnt len fo ff fk fr oA cA rA tA gA nA sA oB cB rB tB gB nB sB) tp [.ref h, .int (nI 0)]) (k2_QcV (.int (nI cnt))) 0 0 (fun _ => False) := by
  refine Met.ofW (cc := cX2_count) (maxL := 2) (ret := (some .int)) (by decide) rfl ?_
  intro p e s m args below meth c s₁ B hml hv
  obtain ⟨rfl, ⟨hP, hK⟩, hE⟩ := hv
  have hx := B.exec
  have hb := B.bytes
  have hr := B.returns
  have hts := atoms_spec (ws := wsX2_count) B.pre
  have hown : s.vm.findClass RX2 = some m.cls := findClass_of_methodNamed B.named
  have hlocks := B.notSynchronized
  have hl := lv_entry ([.ref h, .int (nI 0)]) (n := 2) (Nat.le_of_ble_eq_true rfl)
  rw [lg_entry_eq]
  generalize (lg_sl ([.ref h, .int (nI 0)]) ++ List.replicate (2 - (lg_sl ([.ref h, .int (nI 0)])).length) Slot.unset).toArray = ls at hl ⊢
  have hl : lv_has ls 2 [(0, .ref h), (1, .int (nI 0))] := hl
  have hP : va_P D vwCl [(h, .inr (2, [.ref hn, .ref ha, .ref he, .int (nI ic), .int (nI lc), .int (nI stp), .int ap])), (hn, .inr (1, [.int (nI cnt), .ref ow, .ref fi, .ref ma, .ref ro])), (ow, .inl (cI, 400, .inl fo)), (fi, .inl (cI, 400, .inl ff)), (ma, .inl (cJ, 400, .inr (.inl fk))), (ro, .inl (cJ, len, .inr (.inl fr))), (ha, .inr (0, [.ref oa, .ref na, .ref sa, .int (nI oA), .int (nI cA), .int (nI rA), .int (nI tA)])), (oa, .inl (cI, 16, .inl (fun j => nI (gA j)))), (na, .inl (cI, 4, .inl (fun j => nI (nA j)))), (sa, .inl (cI, 16, .inl sA)), (he, .inr (0, [.ref ob, .ref nb, .ref sb, .int (nI oB), .int (nI cB), .int (nI rB), .int (nI tB)])), (ob, .inl (cI, 16, .inl (fun j => nI (gB j)))), (nb, .inl (cI, 4, .inl (fun j => nI (nB j)))), (sb, .inl (cI, 16, .inl sB))] s.heap := hP
  have hin0 : ∀ w ∈ wsX00, w ∈ wsX2_count := by decide +kernel
  have hin1 : ∀ w ∈ wsX10, w ∈ wsX2_count := by decide +kernel
  have hin2 : ∀ w ∈ wsX20, w ∈ wsX2_count := by decide +kernel
  have kf12 := hts (.fieldLink RX2 12 "SweepEqual" "nodes" "LSweepEqual$Nodes;") (by decide +kernel)
  have kf169 := hts (.fieldLink RX2 169 "SweepEqual$Nodes" "count" "I") (by decide +kernel)
  have kf30 := hts (.fieldLink RX2 30 "SweepEqual" "inputCount" "I") (by decide +kernel)
  have kf47 := hts (.fieldLink RX2 47 "SweepEqual" "latchCount" "I") (by decide +kernel)
  have kf19 := hts (.fieldLink RX2 19 "SweepEqual" "designA" "LSweepEqual$Design;") (by decide +kernel)
  have kf81 := hts (.fieldLink RX2 81 "SweepEqual$Design" "outputCount" "I") (by decide +kernel)
  have kf23 := hts (.fieldLink RX2 23 "SweepEqual" "designB" "LSweepEqual$Design;") (by decide +kernel)
  refine lv_iload_n hx hb dX2_count_0 rfl (lv_at hl 1 rfl) ?_
  refine lv_tableIn (tgt := 44) hx hb dX2_count_1 (by decide) (by decide) rfl (by decide) ?_
  refine lv_aload_n hx hb dX2_count_44 rfl (lv_at hl 0 rfl) ?_
  refine va_get (D := D) (ci := 2) (v := .ref hn) (C := RX2) (T := TX2) (N := 7) hx hb hts hin2 hown hK hP 0 rfl rfl 0 (by decide) kf12 (fun _ h9 => h9) rfl dX2_count_45 ?_
  refine va_get (D := D) (ci := 1) (v := .int (nI cnt)) (C := RX1) (T := TX1) (N := 5) hx hb hts hin1 hown hK hP 1 rfl rfl 0 (by decide) kf169 (fun _ h9 => h9) rfl dX2_count_48 ?_
  exact rd_i hx hb hr hlocks dX2_count_51 (rfl)
set_option maxHeartbeats 4000000 in
set_option maxRecDepth 100000 in
/-- count 1 -/
theorem c_X2_count1 (hc : cnt ≤ 400) : Met l yX2_count wsX2_count { frames := 1, cells := 0, slots := 0, locals := 23 } (re_P D [(cI, .int), (cJ, .long)] (xW h hn ow fi ma ro ha oa na sa he ob nb sb cI cJ ic lc stp ap cnt len fo ff fk fr oA cA rA tA gA nA sA oB cB rB tB gB nB sB) tp [.ref h, .int (nI 1)]) (k2_QcV (.int (nI ic))) 0 0 (fun _ => False) := by
  refine Met.ofW (cc := cX2_count) (maxL := 2) (ret := (some .int)) (by decide) rfl ?_
  intro p e s m args below meth c s₁ B hml hv
  obtain ⟨rfl, ⟨hP, hK⟩, hE⟩ := hv
  have hx := B.exec
  have hb := B.bytes
  have hr := B.returns
  have hts := atoms_spec (ws := wsX2_count) B.pre
  have hown : s.vm.findClass RX2 = some m.cls := findClass_of_methodNamed B.named
  have hlocks := B.notSynchronized
  have hl := lv_entry ([.ref h, .int (nI 1)]) (n := 2) (Nat.le_of_ble_eq_true rfl)
  rw [lg_entry_eq]
  generalize (lg_sl ([.ref h, .int (nI 1)]) ++ List.replicate (2 - (lg_sl ([.ref h, .int (nI 1)])).length) Slot.unset).toArray = ls at hl ⊢
  have hl : lv_has ls 2 [(0, .ref h), (1, .int (nI 1))] := hl
  have hP : va_P D vwCl [(h, .inr (2, [.ref hn, .ref ha, .ref he, .int (nI ic), .int (nI lc), .int (nI stp), .int ap])), (hn, .inr (1, [.int (nI cnt), .ref ow, .ref fi, .ref ma, .ref ro])), (ow, .inl (cI, 400, .inl fo)), (fi, .inl (cI, 400, .inl ff)), (ma, .inl (cJ, 400, .inr (.inl fk))), (ro, .inl (cJ, len, .inr (.inl fr))), (ha, .inr (0, [.ref oa, .ref na, .ref sa, .int (nI oA), .int (nI cA), .int (nI rA), .int (nI tA)])), (oa, .inl (cI, 16, .inl (fun j => nI (gA j)))), (na, .inl (cI, 4, .inl (fun j => nI (nA j)))), (sa, .inl (cI, 16, .inl sA)), (he, .inr (0, [.ref ob, .ref nb, .ref sb, .int (nI oB), .int (nI cB), .int (nI rB), .int (nI tB)])), (ob, .inl (cI, 16, .inl (fun j => nI (gB j)))), (nb, .inl (cI, 4, .inl (fun j => nI (nB j)))), (sb, .inl (cI, 16, .inl sB))] s.heap := hP
  have hin0 : ∀ w ∈ wsX00, w ∈ wsX2_count := by decide +kernel
  have hin1 : ∀ w ∈ wsX10, w ∈ wsX2_count := by decide +kernel
  have hin2 : ∀ w ∈ wsX20, w ∈ wsX2_count := by decide +kernel
  have kf12 := hts (.fieldLink RX2 12 "SweepEqual" "nodes" "LSweepEqual$Nodes;") (by decide +kernel)
  have kf169 := hts (.fieldLink RX2 169 "SweepEqual$Nodes" "count" "I") (by decide +kernel)
  have kf30 := hts (.fieldLink RX2 30 "SweepEqual" "inputCount" "I") (by decide +kernel)
  have kf47 := hts (.fieldLink RX2 47 "SweepEqual" "latchCount" "I") (by decide +kernel)
  have kf19 := hts (.fieldLink RX2 19 "SweepEqual" "designA" "LSweepEqual$Design;") (by decide +kernel)
  have kf81 := hts (.fieldLink RX2 81 "SweepEqual$Design" "outputCount" "I") (by decide +kernel)
  have kf23 := hts (.fieldLink RX2 23 "SweepEqual" "designB" "LSweepEqual$Design;") (by decide +kernel)
  refine lv_iload_n hx hb dX2_count_0 rfl (lv_at hl 1 rfl) ?_
  refine lv_tableIn (tgt := 52) hx hb dX2_count_1 (by decide) (by decide) rfl (by decide) ?_
  refine lv_aload_n hx hb dX2_count_52 rfl (lv_at hl 0 rfl) ?_
  refine va_get (D := D) (ci := 2) (v := .int (nI ic)) (C := RX2) (T := TX2) (N := 7) hx hb hts hin2 hown hK hP 0 rfl rfl 3 (by decide) kf30 (fun _ h9 => h9) rfl dX2_count_53 ?_
  exact rd_i hx hb hr hlocks dX2_count_56 (rfl)
set_option maxHeartbeats 4000000 in
set_option maxRecDepth 100000 in
/-- count 2 -/
theorem c_X2_count2 (hc : cnt ≤ 400) : Met l yX2_count wsX2_count { frames := 1, cells := 0, slots := 0, locals := 23 } (re_P D [(cI, .int), (cJ, .long)] (xW h hn ow fi ma ro ha oa na sa he ob nb sb cI cJ ic lc stp ap cnt len fo ff fk fr oA cA rA tA gA nA sA oB cB rB tB gB nB sB) tp [.ref h, .int (nI 2)]) (k2_QcV (.int (nI lc))) 0 0 (fun _ => False) := by
  refine Met.ofW (cc := cX2_count) (maxL := 2) (ret := (some .int)) (by decide) rfl ?_
  intro p e s m args below meth c s₁ B hml hv
  obtain ⟨rfl, ⟨hP, hK⟩, hE⟩ := hv
  have hx := B.exec
  have hb := B.bytes
  have hr := B.returns
  have hts := atoms_spec (ws := wsX2_count) B.pre
  have hown : s.vm.findClass RX2 = some m.cls := findClass_of_methodNamed B.named
  have hlocks := B.notSynchronized
  have hl := lv_entry ([.ref h, .int (nI 2)]) (n := 2) (Nat.le_of_ble_eq_true rfl)
  rw [lg_entry_eq]
  generalize (lg_sl ([.ref h, .int (nI 2)]) ++ List.replicate (2 - (lg_sl ([.ref h, .int (nI 2)])).length) Slot.unset).toArray = ls at hl ⊢
  have hl : lv_has ls 2 [(0, .ref h), (1, .int (nI 2))] := hl
  have hP : va_P D vwCl [(h, .inr (2, [.ref hn, .ref ha, .ref he, .int (nI ic), .int (nI lc), .int (nI stp), .int ap])), (hn, .inr (1, [.int (nI cnt), .ref ow, .ref fi, .ref ma, .ref ro])), (ow, .inl (cI, 400, .inl fo)), (fi, .inl (cI, 400, .inl ff)), (ma, .inl (cJ, 400, .inr (.inl fk))), (ro, .inl (cJ, len, .inr (.inl fr))), (ha, .inr (0, [.ref oa, .ref na, .ref sa, .int (nI oA), .int (nI cA), .int (nI rA), .int (nI tA)])), (oa, .inl (cI, 16, .inl (fun j => nI (gA j)))), (na, .inl (cI, 4, .inl (fun j => nI (nA j)))), (sa, .inl (cI, 16, .inl sA)), (he, .inr (0, [.ref ob, .ref nb, .ref sb, .int (nI oB), .int (nI cB), .int (nI rB), .int (nI tB)])), (ob, .inl (cI, 16, .inl (fun j => nI (gB j)))), (nb, .inl (cI, 4, .inl (fun j => nI (nB j)))), (sb, .inl (cI, 16, .inl sB))] s.heap := hP
  have hin0 : ∀ w ∈ wsX00, w ∈ wsX2_count := by decide +kernel
  have hin1 : ∀ w ∈ wsX10, w ∈ wsX2_count := by decide +kernel
  have hin2 : ∀ w ∈ wsX20, w ∈ wsX2_count := by decide +kernel
  have kf12 := hts (.fieldLink RX2 12 "SweepEqual" "nodes" "LSweepEqual$Nodes;") (by decide +kernel)
  have kf169 := hts (.fieldLink RX2 169 "SweepEqual$Nodes" "count" "I") (by decide +kernel)
  have kf30 := hts (.fieldLink RX2 30 "SweepEqual" "inputCount" "I") (by decide +kernel)
  have kf47 := hts (.fieldLink RX2 47 "SweepEqual" "latchCount" "I") (by decide +kernel)
  have kf19 := hts (.fieldLink RX2 19 "SweepEqual" "designA" "LSweepEqual$Design;") (by decide +kernel)
  have kf81 := hts (.fieldLink RX2 81 "SweepEqual$Design" "outputCount" "I") (by decide +kernel)
  have kf23 := hts (.fieldLink RX2 23 "SweepEqual" "designB" "LSweepEqual$Design;") (by decide +kernel)
  refine lv_iload_n hx hb dX2_count_0 rfl (lv_at hl 1 rfl) ?_
  refine lv_tableIn (tgt := 57) hx hb dX2_count_1 (by decide) (by decide) rfl (by decide) ?_
  refine lv_aload_n hx hb dX2_count_57 rfl (lv_at hl 0 rfl) ?_
  refine va_get (D := D) (ci := 2) (v := .int (nI lc)) (C := RX2) (T := TX2) (N := 7) hx hb hts hin2 hown hK hP 0 rfl rfl 4 (by decide) kf47 (fun _ h9 => h9) rfl dX2_count_58 ?_
  exact rd_i hx hb hr hlocks dX2_count_61 (rfl)
set_option maxHeartbeats 4000000 in
set_option maxRecDepth 100000 in
/-- count 3 -/
theorem c_X2_count3 (hc : cnt ≤ 400) : Met l yX2_count wsX2_count { frames := 1, cells := 0, slots := 0, locals := 23 } (re_P D [(cI, .int), (cJ, .long)] (xW h hn ow fi ma ro ha oa na sa he ob nb sb cI cJ ic lc stp ap cnt len fo ff fk fr oA cA rA tA gA nA sA oB cB rB tB gB nB sB) tp [.ref h, .int (nI 3)]) (k2_QcV (.int (nI (cAnd fo (nI 0) cnt)))) 0 0 (fun _ => False) := by
  refine Met.ofW (cc := cX2_count) (maxL := 2) (ret := (some .int)) (by decide) rfl ?_
  intro p e s m args below meth c s₁ B hml hv
  obtain ⟨rfl, ⟨hP, hK⟩, hE⟩ := hv
  have hx := B.exec
  have hb := B.bytes
  have hr := B.returns
  have hts := atoms_spec (ws := wsX2_count) B.pre
  have hown : s.vm.findClass RX2 = some m.cls := findClass_of_methodNamed B.named
  have hlocks := B.notSynchronized
  have hl := lv_entry ([.ref h, .int (nI 3)]) (n := 2) (Nat.le_of_ble_eq_true rfl)
  rw [lg_entry_eq]
  generalize (lg_sl ([.ref h, .int (nI 3)]) ++ List.replicate (2 - (lg_sl ([.ref h, .int (nI 3)])).length) Slot.unset).toArray = ls at hl ⊢
  have hl : lv_has ls 2 [(0, .ref h), (1, .int (nI 3))] := hl
  have hP : va_P D vwCl [(h, .inr (2, [.ref hn, .ref ha, .ref he, .int (nI ic), .int (nI lc), .int (nI stp), .int ap])), (hn, .inr (1, [.int (nI cnt), .ref ow, .ref fi, .ref ma, .ref ro])), (ow, .inl (cI, 400, .inl fo)), (fi, .inl (cI, 400, .inl ff)), (ma, .inl (cJ, 400, .inr (.inl fk))), (ro, .inl (cJ, len, .inr (.inl fr))), (ha, .inr (0, [.ref oa, .ref na, .ref sa, .int (nI oA), .int (nI cA), .int (nI rA), .int (nI tA)])), (oa, .inl (cI, 16, .inl (fun j => nI (gA j)))), (na, .inl (cI, 4, .inl (fun j => nI (nA j)))), (sa, .inl (cI, 16, .inl sA)), (he, .inr (0, [.ref ob, .ref nb, .ref sb, .int (nI oB), .int (nI cB), .int (nI rB), .int (nI tB)])), (ob, .inl (cI, 16, .inl (fun j => nI (gB j)))), (nb, .inl (cI, 4, .inl (fun j => nI (nB j)))), (sb, .inl (cI, 16, .inl sB))] s.heap := hP
  have hin0 : ∀ w ∈ wsX00, w ∈ wsX2_count := by decide +kernel
  have hin1 : ∀ w ∈ wsX10, w ∈ wsX2_count := by decide +kernel
  have hin2 : ∀ w ∈ wsX20, w ∈ wsX2_count := by decide +kernel
  have kf12 := hts (.fieldLink RX2 12 "SweepEqual" "nodes" "LSweepEqual$Nodes;") (by decide +kernel)
  have kf169 := hts (.fieldLink RX2 169 "SweepEqual$Nodes" "count" "I") (by decide +kernel)
  have kf30 := hts (.fieldLink RX2 30 "SweepEqual" "inputCount" "I") (by decide +kernel)
  have kf47 := hts (.fieldLink RX2 47 "SweepEqual" "latchCount" "I") (by decide +kernel)
  have kf19 := hts (.fieldLink RX2 19 "SweepEqual" "designA" "LSweepEqual$Design;") (by decide +kernel)
  have kf81 := hts (.fieldLink RX2 81 "SweepEqual$Design" "outputCount" "I") (by decide +kernel)
  have kf23 := hts (.fieldLink RX2 23 "SweepEqual" "designB" "LSweepEqual$Design;") (by decide +kernel)
  refine lv_iload_n hx hb dX2_count_0 rfl (lv_at hl 1 rfl) ?_
  refine lv_tableIn (tgt := 62) hx hb dX2_count_1 (by decide) (by decide) rfl (by decide) ?_
  refine lv_aload_n hx hb dX2_count_62 rfl (lv_at hl 0 rfl) ?_
  refine va_get (D := D) (ci := 2) (v := .ref hn) (C := RX2) (T := TX2) (N := 7) hx hb hts hin2 hown hK hP 0 rfl rfl 0 (by decide) kf12 (fun _ h9 => h9) rfl dX2_count_63 ?_
  refine lv_iload_n hx hb dX2_count_66 rfl (lv_at hl 1 rfl) ?_
  refine lv_iconst (v := nI 3) hx hb dX2_count_67 (by decide) ?_
  refine lv_isub hx hb dX2_count_68 ?_
  refine tp_i (show (nI 3) - (nI 3) = nI (3 - 3) from pk_sub (by omega)) ?_
  refine rd_V (As := [.int (nI (3 - 3))]) (rest := []) ⟨hx, hb, hml, hown, hts⟩ (c_X1_countAnds l D cI cJ hn ow fi ma ro cnt len fo ff fk fr (nI 0) hc) (cwV 1 hts gX2_count_X1_countAnds rfl rfl rfl (by decide +kernel) ⟨Nat.le_of_ble_eq_true rfl, Nat.le_of_ble_eq_true rfl⟩) (rd_pv (ci := 1) (q0 := 0) hK (hP.sub (ws' := [(hn, .inr (1, [.int (nI cnt), .ref ow, .ref fi, .ref ma, .ref ro])), (ow, .inl (cI, 400, .inl fo)), (fi, .inl (cI, 400, .inl ff)), (ma, .inl (cJ, 400, .inr (.inl fk))), (ro, .inl (cJ, len, .inr (.inl fr)))]) [1, 2, 3, 4, 5] rfl) rfl rfl) rfl hl.1 rfl (Nat.le_of_ble_eq_true rfl) dX2_count_69 ⟨Nat.zero_le _, Nat.zero_le _⟩ ?_
  exact rd_i hx hb hr hlocks dX2_count_72 (rfl)
set_option maxHeartbeats 4000000 in
set_option maxRecDepth 100000 in
/-- count 4 -/
theorem c_X2_count4 (hc : cnt ≤ 400) : Met l yX2_count wsX2_count { frames := 1, cells := 0, slots := 0, locals := 23 } (re_P D [(cI, .int), (cJ, .long)] (xW h hn ow fi ma ro ha oa na sa he ob nb sb cI cJ ic lc stp ap cnt len fo ff fk fr oA cA rA tA gA nA sA oB cB rB tB gB nB sB) tp [.ref h, .int (nI 4)]) (k2_QcV (.int (nI (cAnd fo (nI 1) cnt)))) 0 0 (fun _ => False) := by
  refine Met.ofW (cc := cX2_count) (maxL := 2) (ret := (some .int)) (by decide) rfl ?_
  intro p e s m args below meth c s₁ B hml hv
  obtain ⟨rfl, ⟨hP, hK⟩, hE⟩ := hv
  have hx := B.exec
  have hb := B.bytes
  have hr := B.returns
  have hts := atoms_spec (ws := wsX2_count) B.pre
  have hown : s.vm.findClass RX2 = some m.cls := findClass_of_methodNamed B.named
  have hlocks := B.notSynchronized
  have hl := lv_entry ([.ref h, .int (nI 4)]) (n := 2) (Nat.le_of_ble_eq_true rfl)
  rw [lg_entry_eq]
  generalize (lg_sl ([.ref h, .int (nI 4)]) ++ List.replicate (2 - (lg_sl ([.ref h, .int (nI 4)])).length) Slot.unset).toArray = ls at hl ⊢
  have hl : lv_has ls 2 [(0, .ref h), (1, .int (nI 4))] := hl
  have hP : va_P D vwCl [(h, .inr (2, [.ref hn, .ref ha, .ref he, .int (nI ic), .int (nI lc), .int (nI stp), .int ap])), (hn, .inr (1, [.int (nI cnt), .ref ow, .ref fi, .ref ma, .ref ro])), (ow, .inl (cI, 400, .inl fo)), (fi, .inl (cI, 400, .inl ff)), (ma, .inl (cJ, 400, .inr (.inl fk))), (ro, .inl (cJ, len, .inr (.inl fr))), (ha, .inr (0, [.ref oa, .ref na, .ref sa, .int (nI oA), .int (nI cA), .int (nI rA), .int (nI tA)])), (oa, .inl (cI, 16, .inl (fun j => nI (gA j)))), (na, .inl (cI, 4, .inl (fun j => nI (nA j)))), (sa, .inl (cI, 16, .inl sA)), (he, .inr (0, [.ref ob, .ref nb, .ref sb, .int (nI oB), .int (nI cB), .int (nI rB), .int (nI tB)])), (ob, .inl (cI, 16, .inl (fun j => nI (gB j)))), (nb, .inl (cI, 4, .inl (fun j => nI (nB j)))), (sb, .inl (cI, 16, .inl sB))] s.heap := hP
  have hin0 : ∀ w ∈ wsX00, w ∈ wsX2_count := by decide +kernel
  have hin1 : ∀ w ∈ wsX10, w ∈ wsX2_count := by decide +kernel
  have hin2 : ∀ w ∈ wsX20, w ∈ wsX2_count := by decide +kernel
  have kf12 := hts (.fieldLink RX2 12 "SweepEqual" "nodes" "LSweepEqual$Nodes;") (by decide +kernel)
  have kf169 := hts (.fieldLink RX2 169 "SweepEqual$Nodes" "count" "I") (by decide +kernel)
  have kf30 := hts (.fieldLink RX2 30 "SweepEqual" "inputCount" "I") (by decide +kernel)
  have kf47 := hts (.fieldLink RX2 47 "SweepEqual" "latchCount" "I") (by decide +kernel)
  have kf19 := hts (.fieldLink RX2 19 "SweepEqual" "designA" "LSweepEqual$Design;") (by decide +kernel)
  have kf81 := hts (.fieldLink RX2 81 "SweepEqual$Design" "outputCount" "I") (by decide +kernel)
  have kf23 := hts (.fieldLink RX2 23 "SweepEqual" "designB" "LSweepEqual$Design;") (by decide +kernel)
  refine lv_iload_n hx hb dX2_count_0 rfl (lv_at hl 1 rfl) ?_
  refine lv_tableIn (tgt := 62) hx hb dX2_count_1 (by decide) (by decide) rfl (by decide) ?_
  refine lv_aload_n hx hb dX2_count_62 rfl (lv_at hl 0 rfl) ?_
  refine va_get (D := D) (ci := 2) (v := .ref hn) (C := RX2) (T := TX2) (N := 7) hx hb hts hin2 hown hK hP 0 rfl rfl 0 (by decide) kf12 (fun _ h9 => h9) rfl dX2_count_63 ?_
  refine lv_iload_n hx hb dX2_count_66 rfl (lv_at hl 1 rfl) ?_
  refine lv_iconst (v := nI 3) hx hb dX2_count_67 (by decide) ?_
  refine lv_isub hx hb dX2_count_68 ?_
  refine tp_i (show (nI 4) - (nI 3) = nI (4 - 3) from pk_sub (by omega)) ?_
  refine rd_V (As := [.int (nI (4 - 3))]) (rest := []) ⟨hx, hb, hml, hown, hts⟩ (c_X1_countAnds l D cI cJ hn ow fi ma ro cnt len fo ff fk fr (nI 1) hc) (cwV 1 hts gX2_count_X1_countAnds rfl rfl rfl (by decide +kernel) ⟨Nat.le_of_ble_eq_true rfl, Nat.le_of_ble_eq_true rfl⟩) (rd_pv (ci := 1) (q0 := 0) hK (hP.sub (ws' := [(hn, .inr (1, [.int (nI cnt), .ref ow, .ref fi, .ref ma, .ref ro])), (ow, .inl (cI, 400, .inl fo)), (fi, .inl (cI, 400, .inl ff)), (ma, .inl (cJ, 400, .inr (.inl fk))), (ro, .inl (cJ, len, .inr (.inl fr)))]) [1, 2, 3, 4, 5] rfl) rfl rfl) rfl hl.1 rfl (Nat.le_of_ble_eq_true rfl) dX2_count_69 ⟨Nat.zero_le _, Nat.zero_le _⟩ ?_
  exact rd_i hx hb hr hlocks dX2_count_72 (rfl)
set_option maxHeartbeats 4000000 in
set_option maxRecDepth 100000 in
/-- count 5 -/
theorem c_X2_count5 (hc : cnt ≤ 400) : Met l yX2_count wsX2_count { frames := 1, cells := 0, slots := 0, locals := 23 } (re_P D [(cI, .int), (cJ, .long)] (xW h hn ow fi ma ro ha oa na sa he ob nb sb cI cJ ic lc stp ap cnt len fo ff fk fr oA cA rA tA gA nA sA oB cB rB tB gB nB sB) tp [.ref h, .int (nI 5)]) (k2_QcV (.int (nI oA))) 0 0 (fun _ => False) := by
  refine Met.ofW (cc := cX2_count) (maxL := 2) (ret := (some .int)) (by decide) rfl ?_
  intro p e s m args below meth c s₁ B hml hv
  obtain ⟨rfl, ⟨hP, hK⟩, hE⟩ := hv
  have hx := B.exec
  have hb := B.bytes
  have hr := B.returns
  have hts := atoms_spec (ws := wsX2_count) B.pre
  have hown : s.vm.findClass RX2 = some m.cls := findClass_of_methodNamed B.named
  have hlocks := B.notSynchronized
  have hl := lv_entry ([.ref h, .int (nI 5)]) (n := 2) (Nat.le_of_ble_eq_true rfl)
  rw [lg_entry_eq]
  generalize (lg_sl ([.ref h, .int (nI 5)]) ++ List.replicate (2 - (lg_sl ([.ref h, .int (nI 5)])).length) Slot.unset).toArray = ls at hl ⊢
  have hl : lv_has ls 2 [(0, .ref h), (1, .int (nI 5))] := hl
  have hP : va_P D vwCl [(h, .inr (2, [.ref hn, .ref ha, .ref he, .int (nI ic), .int (nI lc), .int (nI stp), .int ap])), (hn, .inr (1, [.int (nI cnt), .ref ow, .ref fi, .ref ma, .ref ro])), (ow, .inl (cI, 400, .inl fo)), (fi, .inl (cI, 400, .inl ff)), (ma, .inl (cJ, 400, .inr (.inl fk))), (ro, .inl (cJ, len, .inr (.inl fr))), (ha, .inr (0, [.ref oa, .ref na, .ref sa, .int (nI oA), .int (nI cA), .int (nI rA), .int (nI tA)])), (oa, .inl (cI, 16, .inl (fun j => nI (gA j)))), (na, .inl (cI, 4, .inl (fun j => nI (nA j)))), (sa, .inl (cI, 16, .inl sA)), (he, .inr (0, [.ref ob, .ref nb, .ref sb, .int (nI oB), .int (nI cB), .int (nI rB), .int (nI tB)])), (ob, .inl (cI, 16, .inl (fun j => nI (gB j)))), (nb, .inl (cI, 4, .inl (fun j => nI (nB j)))), (sb, .inl (cI, 16, .inl sB))] s.heap := hP
  have hin0 : ∀ w ∈ wsX00, w ∈ wsX2_count := by decide +kernel
  have hin1 : ∀ w ∈ wsX10, w ∈ wsX2_count := by decide +kernel
  have hin2 : ∀ w ∈ wsX20, w ∈ wsX2_count := by decide +kernel
  have kf12 := hts (.fieldLink RX2 12 "SweepEqual" "nodes" "LSweepEqual$Nodes;") (by decide +kernel)
  have kf169 := hts (.fieldLink RX2 169 "SweepEqual$Nodes" "count" "I") (by decide +kernel)
  have kf30 := hts (.fieldLink RX2 30 "SweepEqual" "inputCount" "I") (by decide +kernel)
  have kf47 := hts (.fieldLink RX2 47 "SweepEqual" "latchCount" "I") (by decide +kernel)
  have kf19 := hts (.fieldLink RX2 19 "SweepEqual" "designA" "LSweepEqual$Design;") (by decide +kernel)
  have kf81 := hts (.fieldLink RX2 81 "SweepEqual$Design" "outputCount" "I") (by decide +kernel)
  have kf23 := hts (.fieldLink RX2 23 "SweepEqual" "designB" "LSweepEqual$Design;") (by decide +kernel)
  refine lv_iload_n hx hb dX2_count_0 rfl (lv_at hl 1 rfl) ?_
  refine lv_tableIn (tgt := 73) hx hb dX2_count_1 (by decide) (by decide) rfl (by decide) ?_
  refine lv_aload_n hx hb dX2_count_73 rfl (lv_at hl 0 rfl) ?_
  refine va_get (D := D) (ci := 2) (v := .ref ha) (C := RX2) (T := TX2) (N := 7) hx hb hts hin2 hown hK hP 0 rfl rfl 1 (by decide) kf19 (fun _ h9 => h9) rfl dX2_count_74 ?_
  refine va_get (D := D) (ci := 0) (v := .int (nI oA)) (C := RX0) (T := TX0) (N := 7) hx hb hts hin0 hown hK hP 6 rfl rfl 3 (by decide) kf81 (fun _ h9 => h9) rfl dX2_count_77 ?_
  exact rd_i hx hb hr hlocks dX2_count_80 (rfl)
set_option maxHeartbeats 4000000 in
set_option maxRecDepth 100000 in
/-- count 6 -/
theorem c_X2_count6 (hc : cnt ≤ 400) : Met l yX2_count wsX2_count { frames := 1, cells := 0, slots := 0, locals := 23 } (re_P D [(cI, .int), (cJ, .long)] (xW h hn ow fi ma ro ha oa na sa he ob nb sb cI cJ ic lc stp ap cnt len fo ff fk fr oA cA rA tA gA nA sA oB cB rB tB gB nB sB) tp [.ref h, .int (nI 6)]) (k2_QcV (.int (nI oB))) 0 0 (fun _ => False) := by
  refine Met.ofW (cc := cX2_count) (maxL := 2) (ret := (some .int)) (by decide) rfl ?_
  intro p e s m args below meth c s₁ B hml hv
  obtain ⟨rfl, ⟨hP, hK⟩, hE⟩ := hv
  have hx := B.exec
  have hb := B.bytes
  have hr := B.returns
  have hts := atoms_spec (ws := wsX2_count) B.pre
  have hown : s.vm.findClass RX2 = some m.cls := findClass_of_methodNamed B.named
  have hlocks := B.notSynchronized
  have hl := lv_entry ([.ref h, .int (nI 6)]) (n := 2) (Nat.le_of_ble_eq_true rfl)
  rw [lg_entry_eq]
  generalize (lg_sl ([.ref h, .int (nI 6)]) ++ List.replicate (2 - (lg_sl ([.ref h, .int (nI 6)])).length) Slot.unset).toArray = ls at hl ⊢
  have hl : lv_has ls 2 [(0, .ref h), (1, .int (nI 6))] := hl
  have hP : va_P D vwCl [(h, .inr (2, [.ref hn, .ref ha, .ref he, .int (nI ic), .int (nI lc), .int (nI stp), .int ap])), (hn, .inr (1, [.int (nI cnt), .ref ow, .ref fi, .ref ma, .ref ro])), (ow, .inl (cI, 400, .inl fo)), (fi, .inl (cI, 400, .inl ff)), (ma, .inl (cJ, 400, .inr (.inl fk))), (ro, .inl (cJ, len, .inr (.inl fr))), (ha, .inr (0, [.ref oa, .ref na, .ref sa, .int (nI oA), .int (nI cA), .int (nI rA), .int (nI tA)])), (oa, .inl (cI, 16, .inl (fun j => nI (gA j)))), (na, .inl (cI, 4, .inl (fun j => nI (nA j)))), (sa, .inl (cI, 16, .inl sA)), (he, .inr (0, [.ref ob, .ref nb, .ref sb, .int (nI oB), .int (nI cB), .int (nI rB), .int (nI tB)])), (ob, .inl (cI, 16, .inl (fun j => nI (gB j)))), (nb, .inl (cI, 4, .inl (fun j => nI (nB j)))), (sb, .inl (cI, 16, .inl sB))] s.heap := hP
  have hin0 : ∀ w ∈ wsX00, w ∈ wsX2_count := by decide +kernel
  have hin1 : ∀ w ∈ wsX10, w ∈ wsX2_count := by decide +kernel
  have hin2 : ∀ w ∈ wsX20, w ∈ wsX2_count := by decide +kernel
  have kf12 := hts (.fieldLink RX2 12 "SweepEqual" "nodes" "LSweepEqual$Nodes;") (by decide +kernel)
  have kf169 := hts (.fieldLink RX2 169 "SweepEqual$Nodes" "count" "I") (by decide +kernel)
  have kf30 := hts (.fieldLink RX2 30 "SweepEqual" "inputCount" "I") (by decide +kernel)
  have kf47 := hts (.fieldLink RX2 47 "SweepEqual" "latchCount" "I") (by decide +kernel)
  have kf19 := hts (.fieldLink RX2 19 "SweepEqual" "designA" "LSweepEqual$Design;") (by decide +kernel)
  have kf81 := hts (.fieldLink RX2 81 "SweepEqual$Design" "outputCount" "I") (by decide +kernel)
  have kf23 := hts (.fieldLink RX2 23 "SweepEqual" "designB" "LSweepEqual$Design;") (by decide +kernel)
  refine lv_iload_n hx hb dX2_count_0 rfl (lv_at hl 1 rfl) ?_
  refine lv_tableIn (tgt := 81) hx hb dX2_count_1 (by decide) (by decide) rfl (by decide) ?_
  refine lv_aload_n hx hb dX2_count_81 rfl (lv_at hl 0 rfl) ?_
  refine va_get (D := D) (ci := 2) (v := .ref he) (C := RX2) (T := TX2) (N := 7) hx hb hts hin2 hown hK hP 0 rfl rfl 2 (by decide) kf23 (fun _ h9 => h9) rfl dX2_count_82 ?_
  refine va_get (D := D) (ci := 0) (v := .int (nI oB)) (C := RX0) (T := TX0) (N := 7) hx hb hts hin0 hown hK hP 10 rfl rfl 3 (by decide) kf81 (fun _ h9 => h9) rfl dX2_count_85 ?_
  exact rd_i hx hb hr hlocks dX2_count_88 (rfl)
set_option maxHeartbeats 4000000 in
set_option maxRecDepth 100000 in
/-- count: no such what -/
theorem t_X2_count1 (hl9 : l.stackTraces = false) (x : Int32) (hx9 : x.toInt < 0 ∨ 6 < x.toInt) : TH l yX2_count wsX2_count { frames := 6, cells := 1, slots := 6, locals := 82 } (re_P D [(cI, .int), (cJ, .long)] (xW h hn ow fi ma ro ha oa na sa he ob nb sb cI cJ ic lc stp ap cnt len fo ff fk fr oA cA rA tA gA nA sA oB cB rB tB gB nB sB) tp [.ref h, .int x]) "java/lang/IndexOutOfBoundsException" := by
  refine vx_ofW (cc := cX2_count) (maxL := 2) (ret := (some .int)) (by decide) rfl ?_
  intro p e s m args below meth c s₁ B hml hno hv
  obtain ⟨rfl, ⟨hP, hK⟩, hE⟩ := hv
  have hx := B.exec
  have hb := B.bytes
  have hr := B.returns
  have hts := atoms_spec (ws := wsX2_count) B.pre
  have hown : s.vm.findClass RX2 = some m.cls := findClass_of_methodNamed B.named
  have hlocks := B.notSynchronized
  have hl := lv_entry ([.ref h, .int x]) (n := 2) (Nat.le_of_ble_eq_true rfl)
  rw [lg_entry_eq]
  generalize (lg_sl ([.ref h, .int x]) ++ List.replicate (2 - (lg_sl ([.ref h, .int x])).length) Slot.unset).toArray = ls at hl ⊢
  have hl : lv_has ls 2 [(0, .ref h), (1, .int x)] := hl
  have hP : va_P D vwCl [(h, .inr (2, [.ref hn, .ref ha, .ref he, .int (nI ic), .int (nI lc), .int (nI stp), .int ap])), (hn, .inr (1, [.int (nI cnt), .ref ow, .ref fi, .ref ma, .ref ro])), (ow, .inl (cI, 400, .inl fo)), (fi, .inl (cI, 400, .inl ff)), (ma, .inl (cJ, 400, .inr (.inl fk))), (ro, .inl (cJ, len, .inr (.inl fr))), (ha, .inr (0, [.ref oa, .ref na, .ref sa, .int (nI oA), .int (nI cA), .int (nI rA), .int (nI tA)])), (oa, .inl (cI, 16, .inl (fun j => nI (gA j)))), (na, .inl (cI, 4, .inl (fun j => nI (nA j)))), (sa, .inl (cI, 16, .inl sA)), (he, .inr (0, [.ref ob, .ref nb, .ref sb, .int (nI oB), .int (nI cB), .int (nI rB), .int (nI tB)])), (ob, .inl (cI, 16, .inl (fun j => nI (gB j)))), (nb, .inl (cI, 4, .inl (fun j => nI (nB j)))), (sb, .inl (cI, 16, .inl sB))] s.heap := hP
  have hin0 : ∀ w ∈ wsX00, w ∈ wsX2_count := by decide +kernel
  have hin1 : ∀ w ∈ wsX10, w ∈ wsX2_count := by decide +kernel
  have hin2 : ∀ w ∈ wsX20, w ∈ wsX2_count := by decide +kernel
  have kf12 := hts (.fieldLink RX2 12 "SweepEqual" "nodes" "LSweepEqual$Nodes;") (by decide +kernel)
  have kf169 := hts (.fieldLink RX2 169 "SweepEqual$Nodes" "count" "I") (by decide +kernel)
  have kf30 := hts (.fieldLink RX2 30 "SweepEqual" "inputCount" "I") (by decide +kernel)
  have kf47 := hts (.fieldLink RX2 47 "SweepEqual" "latchCount" "I") (by decide +kernel)
  have kf19 := hts (.fieldLink RX2 19 "SweepEqual" "designA" "LSweepEqual$Design;") (by decide +kernel)
  have kf81 := hts (.fieldLink RX2 81 "SweepEqual$Design" "outputCount" "I") (by decide +kernel)
  have kf23 := hts (.fieldLink RX2 23 "SweepEqual" "designB" "LSweepEqual$Design;") (by decide +kernel)
  have hgw_io : ∀ w ∈ (vx_atS RX2 124 "java/lang/IndexOutOfBoundsException" xN).filter goodWord, w.before ([.ref h, .int x] : List Value).toArray s = true := fun w hw => hts w (inX_X2_count_io w hw)
  refine lv_iload_n hx hb dX2_count_0 rfl (lv_at hl 1 rfl) ?_
  refine lv_tableOut (tgt := 89) hx hb dX2_count_1 hx9 (by decide) ?_
  exact th_S (cls := "java/lang/IndexOutOfBoundsException") (text := "no such what") hx hb hl9 hown (by decide +kernel) (hts (.classLink RX2 120 "java/lang/IndexOutOfBoundsException") (by decide +kernel)) (hts (.initialized "java/lang/IndexOutOfBoundsException") (by decide +kernel)) hgw_io hng_io hgd_io hE (by decide) (by decide) (by rw [hml]; exact hl.1) dX2_count_89 dX2_count_92 dX2_count_93 dX2_count_95 dX2_count_98 hno (Nat.le_of_ble_eq_true rfl) (Nat.le_of_ble_eq_true rfl) (Nat.le_of_ble_eq_true rfl) (Nat.le_of_ble_eq_true rfl) hlocks
end XA
