/-! SweepEqual: the throws of what writes. -/
set_option maxRecDepth 100000 in
theorem inX_X2_input_is : ∀ w ∈ (vx_atS RX2 37 "java/lang/IllegalStateException" xN).filter goodWord, w ∈ wsX2_input := by decide +kernel
set_option maxRecDepth 100000 in
theorem inX_X2_latch_is : ∀ w ∈ (vx_atS RX2 37 "java/lang/IllegalStateException" xN).filter goodWord, w ∈ wsX2_latch := by decide +kernel
set_option maxRecDepth 100000 in
theorem inX_X2_output_is : ∀ w ∈ (vx_atS RX2 37 "java/lang/IllegalStateException" xN).filter goodWord, w ∈ wsX2_output := by decide +kernel
section XT
variable (l : Launch) (D : va_G) (cI cJ : ClassId) (tp : Nat) (h hn ow fi ma ro ha oa na sa he ob nb sb : Nat) (ic lc stp : Nat) (ap : Int32) (cnt len : Nat) (fo ff : Nat → Int32) (fk fr : Nat → Int64) (oA cA rA tA : Nat) (gA nA : Nat → Nat) (sA : Nat → Int32) (oB cB rB tB : Nat) (gB nB : Nat → Nat) (sB : Nat → Int32)
set_option maxHeartbeats 4000000 in
set_option maxRecDepth 100000 in
/-- input: there are 8 -/
theorem t_X2_input1 (hl9 : l.stackTraces = false) (hic : ic = 8) : TH l yX2_input wsX2_input { frames := 6, cells := 1, slots := 6, locals := 82 } (re_P D [(cI, .int), (cJ, .long)] (xW h hn ow fi ma ro ha oa na sa he ob nb sb cI cJ ic lc stp ap cnt len fo ff fk fr oA cA rA tA gA nA sA oB cB rB tB gB nB sB) tp [.ref h]) "java/lang/IllegalStateException" := by
  refine vx_ofW (cc := cX2_input) (maxL := 2) (ret := (some .int)) (by decide) rfl ?_
  intro p e s m args below meth c s₁ B hml hno hv
  obtain ⟨rfl, ⟨hP, hK⟩, hE⟩ := hv
  have hx := B.exec
  have hb := B.bytes
  have hr := B.returns
  have hts := atoms_spec (ws := wsX2_input) B.pre
  have hown : s.vm.findClass RX2 = some m.cls := findClass_of_methodNamed B.named
  have hlocks := B.notSynchronized
  have hl := lv_entry ([.ref h]) (n := 2) (Nat.le_of_ble_eq_true rfl)
  rw [lg_entry_eq]
  generalize (lg_sl ([.ref h]) ++ List.replicate (2 - (lg_sl ([.ref h])).length) Slot.unset).toArray = ls at hl ⊢
  have hl : lv_has ls 2 [(0, .ref h)] := hl
  have hP : va_P D vwCl [(h, .inr (2, [.ref hn, .ref ha, .ref he, .int (nI ic), .int (nI lc), .int (nI stp), .int ap])), (hn, .inr (1, [.int (nI cnt), .ref ow, .ref fi, .ref ma, .ref ro])), (ow, .inl (cI, 400, .inl fo)), (fi, .inl (cI, 400, .inl ff)), (ma, .inl (cJ, 400, .inr (.inl fk))), (ro, .inl (cJ, len, .inr (.inl fr))), (ha, .inr (0, [.ref oa, .ref na, .ref sa, .int (nI oA), .int (nI cA), .int (nI rA), .int (nI tA)])), (oa, .inl (cI, 16, .inl (fun j => nI (gA j)))), (na, .inl (cI, 4, .inl (fun j => nI (nA j)))), (sa, .inl (cI, 16, .inl sA)), (he, .inr (0, [.ref ob, .ref nb, .ref sb, .int (nI oB), .int (nI cB), .int (nI rB), .int (nI tB)])), (ob, .inl (cI, 16, .inl (fun j => nI (gB j)))), (nb, .inl (cI, 4, .inl (fun j => nI (nB j)))), (sb, .inl (cI, 16, .inl sB))] s.heap := hP
  have hin2 : ∀ w ∈ wsX20, w ∈ wsX2_input := by decide +kernel
  have kf30 := hts (.fieldLink RX2 30 "SweepEqual" "inputCount" "I") (by decide +kernel)
  have kf12 := hts (.fieldLink RX2 12 "SweepEqual" "nodes" "LSweepEqual$Nodes;") (by decide +kernel)
  have hgw_is : ∀ w ∈ (vx_atS RX2 37 "java/lang/IllegalStateException" xN).filter goodWord, w.before ([.ref h] : List Value).toArray s = true := fun w hw => hts w (inX_X2_input_is w hw)
  refine lv_aload_n hx hb dX2_input_0 rfl (lv_at hl 0 rfl) ?_
  refine va_get (D := D) (ci := 2) (v := .int (nI ic)) (C := RX2) (T := TX2) (N := 7) hx hb hts hin2 hown hK hP 0 rfl rfl 3 (by decide) kf30 (fun _ h9 => h9) rfl dX2_input_1 ?_
  refine lv_bipush (v := nI 8) hx hb dX2_input_4 (by decide) ?_
  refine lv_icmp_ne (tgt := 19) hx hb dX2_input_6 (by decide) (fun c1 => ?_) (fun c1 => ?_)
  · have c1 : ¬ ic = 8 := fun h => c1 ((nI_eq (by omega) (by omega)).mpr h)
    exact absurd hic c1
  · have c1 : ic = 8 := (nI_eq (by omega) (by omega)).mp c1
    exact th_S (cls := "java/lang/IllegalStateException") (text := "there are 8 inputs") hx hb hl9 hown (by decide +kernel) (hts (.classLink RX2 33 "java/lang/IllegalStateException") (by decide +kernel)) (hts (.initialized "java/lang/IllegalStateException") (by decide +kernel)) hgw_is hng_is hgd_is hE (by decide) (by decide) (by rw [hml]; exact hl.1) dX2_input_9 dX2_input_12 dX2_input_13 dX2_input_15 dX2_input_18 hno (Nat.le_of_ble_eq_true rfl) (Nat.le_of_ble_eq_true rfl) (Nat.le_of_ble_eq_true rfl) (Nat.le_of_ble_eq_true rfl) hlocks
set_option maxHeartbeats 4000000 in
set_option maxRecDepth 100000 in
/-- input: 400 nodes -/
theorem t_X2_input2 (hl9 : l.stackTraces = false) (hic : ic < 8) (hr0 : cnt = 400) : TH l yX2_input wsX2_input { frames := 7, cells := 1, slots := 6, locals := 102 } (re_P D [(cI, .int), (cJ, .long)] (xW h hn ow fi ma ro ha oa na sa he ob nb sb cI cJ ic lc stp ap cnt len fo ff fk fr oA cA rA tA gA nA sA oB cB rB tB gB nB sB) tp [.ref h]) "java/lang/IllegalStateException" := by
  refine vx_ofW (cc := cX2_input) (maxL := 2) (ret := (some .int)) (by decide) rfl ?_
  intro p e s m args below meth c s₁ B hml hno hv
  obtain ⟨rfl, ⟨hP, hK⟩, hE⟩ := hv
  have hx := B.exec
  have hb := B.bytes
  have hr := B.returns
  have hts := atoms_spec (ws := wsX2_input) B.pre
  have hown : s.vm.findClass RX2 = some m.cls := findClass_of_methodNamed B.named
  have hlocks := B.notSynchronized
  have hl := lv_entry ([.ref h]) (n := 2) (Nat.le_of_ble_eq_true rfl)
  rw [lg_entry_eq]
  generalize (lg_sl ([.ref h]) ++ List.replicate (2 - (lg_sl ([.ref h])).length) Slot.unset).toArray = ls at hl ⊢
  have hl : lv_has ls 2 [(0, .ref h)] := hl
  have hP : va_P D vwCl [(h, .inr (2, [.ref hn, .ref ha, .ref he, .int (nI ic), .int (nI lc), .int (nI stp), .int ap])), (hn, .inr (1, [.int (nI cnt), .ref ow, .ref fi, .ref ma, .ref ro])), (ow, .inl (cI, 400, .inl fo)), (fi, .inl (cI, 400, .inl ff)), (ma, .inl (cJ, 400, .inr (.inl fk))), (ro, .inl (cJ, len, .inr (.inl fr))), (ha, .inr (0, [.ref oa, .ref na, .ref sa, .int (nI oA), .int (nI cA), .int (nI rA), .int (nI tA)])), (oa, .inl (cI, 16, .inl (fun j => nI (gA j)))), (na, .inl (cI, 4, .inl (fun j => nI (nA j)))), (sa, .inl (cI, 16, .inl sA)), (he, .inr (0, [.ref ob, .ref nb, .ref sb, .int (nI oB), .int (nI cB), .int (nI rB), .int (nI tB)])), (ob, .inl (cI, 16, .inl (fun j => nI (gB j)))), (nb, .inl (cI, 4, .inl (fun j => nI (nB j)))), (sb, .inl (cI, 16, .inl sB))] s.heap := hP
  have hin2 : ∀ w ∈ wsX20, w ∈ wsX2_input := by decide +kernel
  have kf30 := hts (.fieldLink RX2 30 "SweepEqual" "inputCount" "I") (by decide +kernel)
  have kf12 := hts (.fieldLink RX2 12 "SweepEqual" "nodes" "LSweepEqual$Nodes;") (by decide +kernel)
  refine lv_aload_n hx hb dX2_input_0 rfl (lv_at hl 0 rfl) ?_
  refine va_get (D := D) (ci := 2) (v := .int (nI ic)) (C := RX2) (T := TX2) (N := 7) hx hb hts hin2 hown hK hP 0 rfl rfl 3 (by decide) kf30 (fun _ h9 => h9) rfl dX2_input_1 ?_
  refine lv_bipush (v := nI 8) hx hb dX2_input_4 (by decide) ?_
  refine lv_icmp_ne (tgt := 19) hx hb dX2_input_6 (by decide) (fun c1 => ?_) (fun c1 => ?_)
  · have c1 : ¬ ic = 8 := fun h => c1 ((nI_eq (by omega) (by omega)).mpr h)
    refine lv_aload_n hx hb dX2_input_19 rfl (lv_at hl 0 rfl) ?_
    exact th_V (As := []) (rest := []) ⟨hx, hb, hml, hown, hts⟩ (t_X2_needRoomForNode l D cI cJ tp h hn ow fi ma ro ha oa na sa he ob nb sb ic lc stp ap cnt len fo ff fk fr oA cA rA tA gA nA sA oB cB rB tB gB nB sB hl9 hr0) (cwV 0 hts gX2_input_X2_needRoomForNode rfl rfl rfl (by decide +kernel) ⟨Nat.le_of_ble_eq_true rfl, Nat.le_of_ble_eq_true rfl⟩) (re_pv (ci := 2) (q0 := 0) hK hP hE rfl rfl) rfl hl.1 rfl (Nat.le_of_ble_eq_true rfl) dX2_input_20 ⟨Nat.le_of_ble_eq_true rfl, Nat.le_of_ble_eq_true rfl⟩ hno hlocks
  · have c1 : ic = 8 := (nI_eq (by omega) (by omega)).mp c1
    exact absurd c1 (by omega)
set_option maxHeartbeats 4000000 in
set_option maxRecDepth 100000 in
/-- latch: there are 4 -/
theorem t_X2_latch1 (hl9 : l.stackTraces = false) (x y : Int32) (hlc : lc = 4) : TH l yX2_latch wsX2_latch { frames := 6, cells := 1, slots := 6, locals := 82 } (re_P D [(cI, .int), (cJ, .long)] (xW h hn ow fi ma ro ha oa na sa he ob nb sb cI cJ ic lc stp ap cnt len fo ff fk fr oA cA rA tA gA nA sA oB cB rB tB gB nB sB) tp [.ref h, .int x, .int y]) "java/lang/IllegalStateException" := by
  refine vx_ofW (cc := cX2_latch) (maxL := 4) (ret := (some .int)) (by decide) rfl ?_
  intro p e s m args below meth c s₁ B hml hno hv
  obtain ⟨rfl, ⟨hP, hK⟩, hE⟩ := hv
  have hx := B.exec
  have hb := B.bytes
  have hr := B.returns
  have hts := atoms_spec (ws := wsX2_latch) B.pre
  have hown : s.vm.findClass RX2 = some m.cls := findClass_of_methodNamed B.named
  have hlocks := B.notSynchronized
  have hl := lv_entry ([.ref h, .int x, .int y]) (n := 4) (Nat.le_of_ble_eq_true rfl)
  rw [lg_entry_eq]
  generalize (lg_sl ([.ref h, .int x, .int y]) ++ List.replicate (4 - (lg_sl ([.ref h, .int x, .int y])).length) Slot.unset).toArray = ls at hl ⊢
  have hl : lv_has ls 4 [(0, .ref h), (1, .int x), (2, .int y)] := hl
  have hP : va_P D vwCl [(h, .inr (2, [.ref hn, .ref ha, .ref he, .int (nI ic), .int (nI lc), .int (nI stp), .int ap])), (hn, .inr (1, [.int (nI cnt), .ref ow, .ref fi, .ref ma, .ref ro])), (ow, .inl (cI, 400, .inl fo)), (fi, .inl (cI, 400, .inl ff)), (ma, .inl (cJ, 400, .inr (.inl fk))), (ro, .inl (cJ, len, .inr (.inl fr))), (ha, .inr (0, [.ref oa, .ref na, .ref sa, .int (nI oA), .int (nI cA), .int (nI rA), .int (nI tA)])), (oa, .inl (cI, 16, .inl (fun j => nI (gA j)))), (na, .inl (cI, 4, .inl (fun j => nI (nA j)))), (sa, .inl (cI, 16, .inl sA)), (he, .inr (0, [.ref ob, .ref nb, .ref sb, .int (nI oB), .int (nI cB), .int (nI rB), .int (nI tB)])), (ob, .inl (cI, 16, .inl (fun j => nI (gB j)))), (nb, .inl (cI, 4, .inl (fun j => nI (nB j)))), (sb, .inl (cI, 16, .inl sB))] s.heap := hP
  have hin2 : ∀ w ∈ wsX20, w ∈ wsX2_latch := by decide +kernel
  have kf47 := hts (.fieldLink RX2 47 "SweepEqual" "latchCount" "I") (by decide +kernel)
  have kf12 := hts (.fieldLink RX2 12 "SweepEqual" "nodes" "LSweepEqual$Nodes;") (by decide +kernel)
  have kf19 := hts (.fieldLink RX2 19 "SweepEqual" "designA" "LSweepEqual$Design;") (by decide +kernel)
  have kf23 := hts (.fieldLink RX2 23 "SweepEqual" "designB" "LSweepEqual$Design;") (by decide +kernel)
  have hgw_is : ∀ w ∈ (vx_atS RX2 37 "java/lang/IllegalStateException" xN).filter goodWord, w.before ([.ref h, .int x, .int y] : List Value).toArray s = true := fun w hw => hts w (inX_X2_latch_is w hw)
  refine lv_aload_n hx hb dX2_latch_0 rfl (lv_at hl 0 rfl) ?_
  refine va_get (D := D) (ci := 2) (v := .int (nI lc)) (C := RX2) (T := TX2) (N := 7) hx hb hts hin2 hown hK hP 0 rfl rfl 4 (by decide) kf47 (fun _ h9 => h9) rfl dX2_latch_1 ?_
  refine lv_iconst (v := nI 4) hx hb dX2_latch_4 (by decide) ?_
  refine lv_icmp_ne (tgt := 18) hx hb dX2_latch_5 (by decide) (fun c1 => ?_) (fun c1 => ?_)
  · have c1 : ¬ lc = 4 := fun h => c1 ((nI_eq (by omega) (by omega)).mpr h)
    exact absurd hlc c1
  · have c1 : lc = 4 := (nI_eq (by omega) (by omega)).mp c1
    exact th_S (cls := "java/lang/IllegalStateException") (text := "there are 4 latches") hx hb hl9 hown (by decide +kernel) (hts (.classLink RX2 33 "java/lang/IllegalStateException") (by decide +kernel)) (hts (.initialized "java/lang/IllegalStateException") (by decide +kernel)) hgw_is hng_is hgd_is hE (by decide) (by decide) (by rw [hml]; exact hl.1) dX2_latch_8 dX2_latch_11 dX2_latch_12 dX2_latch_14 dX2_latch_17 hno (Nat.le_of_ble_eq_true rfl) (Nat.le_of_ble_eq_true rfl) (Nat.le_of_ble_eq_true rfl) (Nat.le_of_ble_eq_true rfl) hlocks
set_option maxHeartbeats 4000000 in
set_option maxRecDepth 100000 in
/-- latch: 400 nodes -/
theorem t_X2_latch2 (hl9 : l.stackTraces = false) (x y : Int32) (hlc : lc < 4) (hr0 : cnt = 400) : TH l yX2_latch wsX2_latch { frames := 7, cells := 1, slots := 6, locals := 102 } (re_P D [(cI, .int), (cJ, .long)] (xW h hn ow fi ma ro ha oa na sa he ob nb sb cI cJ ic lc stp ap cnt len fo ff fk fr oA cA rA tA gA nA sA oB cB rB tB gB nB sB) tp [.ref h, .int x, .int y]) "java/lang/IllegalStateException" := by
  refine vx_ofW (cc := cX2_latch) (maxL := 4) (ret := (some .int)) (by decide) rfl ?_
  intro p e s m args below meth c s₁ B hml hno hv
  obtain ⟨rfl, ⟨hP, hK⟩, hE⟩ := hv
  have hx := B.exec
  have hb := B.bytes
  have hr := B.returns
  have hts := atoms_spec (ws := wsX2_latch) B.pre
  have hown : s.vm.findClass RX2 = some m.cls := findClass_of_methodNamed B.named
  have hlocks := B.notSynchronized
  have hl := lv_entry ([.ref h, .int x, .int y]) (n := 4) (Nat.le_of_ble_eq_true rfl)
  rw [lg_entry_eq]
  generalize (lg_sl ([.ref h, .int x, .int y]) ++ List.replicate (4 - (lg_sl ([.ref h, .int x, .int y])).length) Slot.unset).toArray = ls at hl ⊢
  have hl : lv_has ls 4 [(0, .ref h), (1, .int x), (2, .int y)] := hl
  have hP : va_P D vwCl [(h, .inr (2, [.ref hn, .ref ha, .ref he, .int (nI ic), .int (nI lc), .int (nI stp), .int ap])), (hn, .inr (1, [.int (nI cnt), .ref ow, .ref fi, .ref ma, .ref ro])), (ow, .inl (cI, 400, .inl fo)), (fi, .inl (cI, 400, .inl ff)), (ma, .inl (cJ, 400, .inr (.inl fk))), (ro, .inl (cJ, len, .inr (.inl fr))), (ha, .inr (0, [.ref oa, .ref na, .ref sa, .int (nI oA), .int (nI cA), .int (nI rA), .int (nI tA)])), (oa, .inl (cI, 16, .inl (fun j => nI (gA j)))), (na, .inl (cI, 4, .inl (fun j => nI (nA j)))), (sa, .inl (cI, 16, .inl sA)), (he, .inr (0, [.ref ob, .ref nb, .ref sb, .int (nI oB), .int (nI cB), .int (nI rB), .int (nI tB)])), (ob, .inl (cI, 16, .inl (fun j => nI (gB j)))), (nb, .inl (cI, 4, .inl (fun j => nI (nB j)))), (sb, .inl (cI, 16, .inl sB))] s.heap := hP
  have hin2 : ∀ w ∈ wsX20, w ∈ wsX2_latch := by decide +kernel
  have kf47 := hts (.fieldLink RX2 47 "SweepEqual" "latchCount" "I") (by decide +kernel)
  have kf12 := hts (.fieldLink RX2 12 "SweepEqual" "nodes" "LSweepEqual$Nodes;") (by decide +kernel)
  have kf19 := hts (.fieldLink RX2 19 "SweepEqual" "designA" "LSweepEqual$Design;") (by decide +kernel)
  have kf23 := hts (.fieldLink RX2 23 "SweepEqual" "designB" "LSweepEqual$Design;") (by decide +kernel)
  refine lv_aload_n hx hb dX2_latch_0 rfl (lv_at hl 0 rfl) ?_
  refine va_get (D := D) (ci := 2) (v := .int (nI lc)) (C := RX2) (T := TX2) (N := 7) hx hb hts hin2 hown hK hP 0 rfl rfl 4 (by decide) kf47 (fun _ h9 => h9) rfl dX2_latch_1 ?_
  refine lv_iconst (v := nI 4) hx hb dX2_latch_4 (by decide) ?_
  refine lv_icmp_ne (tgt := 18) hx hb dX2_latch_5 (by decide) (fun c1 => ?_) (fun c1 => ?_)
  · have c1 : ¬ lc = 4 := fun h => c1 ((nI_eq (by omega) (by omega)).mpr h)
    refine lv_aload_n hx hb dX2_latch_18 rfl (lv_at hl 0 rfl) ?_
    exact th_V (As := []) (rest := []) ⟨hx, hb, hml, hown, hts⟩ (t_X2_needRoomForNode l D cI cJ tp h hn ow fi ma ro ha oa na sa he ob nb sb ic lc stp ap cnt len fo ff fk fr oA cA rA tA gA nA sA oB cB rB tB gB nB sB hl9 hr0) (cwV 0 hts gX2_latch_X2_needRoomForNode rfl rfl rfl (by decide +kernel) ⟨Nat.le_of_ble_eq_true rfl, Nat.le_of_ble_eq_true rfl⟩) (re_pv (ci := 2) (q0 := 0) hK hP hE rfl rfl) rfl hl.1 rfl (Nat.le_of_ble_eq_true rfl) dX2_latch_19 ⟨Nat.le_of_ble_eq_true rfl, Nat.le_of_ble_eq_true rfl⟩ hno hlocks
  · have c1 : lc = 4 := (nI_eq (by omega) (by omega)).mp c1
    exact absurd c1 (by omega)
set_option maxHeartbeats 4000000 in
set_option maxRecDepth 100000 in
/-- latch: no such start -/
theorem t_X2_latch3 (hl9 : l.stackTraces = false) (x y : Int32) (hlc : lc < 4) (hr0 : ¬ cnt = 400) (hc : cnt ≤ 400) (hx9 : ¬ (x = 0 ∨ x = 1)) : TH l yX2_latch wsX2_latch { frames := 7, cells := 1, slots := 6, locals := 103 } (re_P D [(cI, .int), (cJ, .long)] (xW h hn ow fi ma ro ha oa na sa he ob nb sb cI cJ ic lc stp ap cnt len fo ff fk fr oA cA rA tA gA nA sA oB cB rB tB gB nB sB) tp [.ref h, .int x, .int y]) "java/lang/IllegalArgumentException" := by
  refine vx_ofW (cc := cX2_latch) (maxL := 4) (ret := (some .int)) (by decide) rfl ?_
  intro p e s m args below meth c s₁ B hml hno hv
  obtain ⟨rfl, ⟨hP, hK⟩, hE⟩ := hv
  have hx := B.exec
  have hb := B.bytes
  have hr := B.returns
  have hts := atoms_spec (ws := wsX2_latch) B.pre
  have hown : s.vm.findClass RX2 = some m.cls := findClass_of_methodNamed B.named
  have hlocks := B.notSynchronized
  have hl := lv_entry ([.ref h, .int x, .int y]) (n := 4) (Nat.le_of_ble_eq_true rfl)
  rw [lg_entry_eq]
  generalize (lg_sl ([.ref h, .int x, .int y]) ++ List.replicate (4 - (lg_sl ([.ref h, .int x, .int y])).length) Slot.unset).toArray = ls at hl ⊢
  have hl : lv_has ls 4 [(0, .ref h), (1, .int x), (2, .int y)] := hl
  have hP : va_P D vwCl [(h, .inr (2, [.ref hn, .ref ha, .ref he, .int (nI ic), .int (nI lc), .int (nI stp), .int ap])), (hn, .inr (1, [.int (nI cnt), .ref ow, .ref fi, .ref ma, .ref ro])), (ow, .inl (cI, 400, .inl fo)), (fi, .inl (cI, 400, .inl ff)), (ma, .inl (cJ, 400, .inr (.inl fk))), (ro, .inl (cJ, len, .inr (.inl fr))), (ha, .inr (0, [.ref oa, .ref na, .ref sa, .int (nI oA), .int (nI cA), .int (nI rA), .int (nI tA)])), (oa, .inl (cI, 16, .inl (fun j => nI (gA j)))), (na, .inl (cI, 4, .inl (fun j => nI (nA j)))), (sa, .inl (cI, 16, .inl sA)), (he, .inr (0, [.ref ob, .ref nb, .ref sb, .int (nI oB), .int (nI cB), .int (nI rB), .int (nI tB)])), (ob, .inl (cI, 16, .inl (fun j => nI (gB j)))), (nb, .inl (cI, 4, .inl (fun j => nI (nB j)))), (sb, .inl (cI, 16, .inl sB))] s.heap := hP
  have hin2 : ∀ w ∈ wsX20, w ∈ wsX2_latch := by decide +kernel
  have kf47 := hts (.fieldLink RX2 47 "SweepEqual" "latchCount" "I") (by decide +kernel)
  have kf12 := hts (.fieldLink RX2 12 "SweepEqual" "nodes" "LSweepEqual$Nodes;") (by decide +kernel)
  have kf19 := hts (.fieldLink RX2 19 "SweepEqual" "designA" "LSweepEqual$Design;") (by decide +kernel)
  have kf23 := hts (.fieldLink RX2 23 "SweepEqual" "designB" "LSweepEqual$Design;") (by decide +kernel)
  refine lv_aload_n hx hb dX2_latch_0 rfl (lv_at hl 0 rfl) ?_
  refine va_get (D := D) (ci := 2) (v := .int (nI lc)) (C := RX2) (T := TX2) (N := 7) hx hb hts hin2 hown hK hP 0 rfl rfl 4 (by decide) kf47 (fun _ h9 => h9) rfl dX2_latch_1 ?_
  refine lv_iconst (v := nI 4) hx hb dX2_latch_4 (by decide) ?_
  refine lv_icmp_ne (tgt := 18) hx hb dX2_latch_5 (by decide) (fun c1 => ?_) (fun c1 => ?_)
  · have c1 : ¬ lc = 4 := fun h => c1 ((nI_eq (by omega) (by omega)).mpr h)
    refine lv_aload_n hx hb dX2_latch_18 rfl (lv_at hl 0 rfl) ?_
    refine rv_V (As := []) (rest := []) ⟨hx, hb, hml, hown, hts⟩ (c_X2_needRoomForNode l D cI cJ tp h hn ow fi ma ro ha oa na sa he ob nb sb ic lc stp ap cnt len fo ff fk fr oA cA rA tA gA nA sA oB cB rB tB gB nB sB hr0 (by omega)) (cwV 0 hts gX2_latch_X2_needRoomForNode rfl rfl rfl (by decide +kernel) ⟨Nat.le_of_ble_eq_true rfl, Nat.le_of_ble_eq_true rfl⟩) (re_pv (ci := 2) (q0 := 0) hK hP hE rfl rfl) rfl hl.1 rfl (Nat.le_of_ble_eq_true rfl) dX2_latch_19 ⟨Nat.zero_le _, Nat.zero_le _⟩ ?_
    refine lv_aload_n hx hb dX2_latch_22 rfl (lv_at hl 0 rfl) ?_
    refine lv_iload_n hx hb dX2_latch_23 rfl (lv_at hl 1 rfl) ?_
    exact th_V (As := [.int x]) (rest := []) ⟨hx, hb, hml, hown, hts⟩ (t_X2_needStart l D cI cJ tp h hn ow fi ma ro ha oa na sa he ob nb sb ic lc stp ap cnt len fo ff fk fr oA cA rA tA gA nA sA oB cB rB tB gB nB sB hl9 x hx9) (cwV 1 hts gX2_latch_X2_needStart rfl rfl rfl (by decide +kernel) ⟨Nat.le_of_ble_eq_true rfl, Nat.le_of_ble_eq_true rfl⟩) (re_pv (ci := 2) (q0 := 0) hK hP hE rfl rfl) rfl hl.1 rfl (Nat.le_of_ble_eq_true rfl) dX2_latch_24 ⟨Nat.le_of_ble_eq_true rfl, Nat.le_of_ble_eq_true rfl⟩ hno hlocks
  · have c1 : lc = 4 := (nI_eq (by omega) (by omega)).mp c1
    exact absurd c1 (by omega)
set_option maxHeartbeats 4000000 in
set_option maxRecDepth 100000 in
/-- latch: no such second start -/
theorem t_X2_latch4 (hl9 : l.stackTraces = false) (x y : Int32) (hlc : lc < 4) (hr0 : ¬ cnt = 400) (hc : cnt ≤ 400) (hx8 : x = 0 ∨ x = 1) (hx9 : ¬ (y = 0 ∨ y = 1)) : TH l yX2_latch wsX2_latch { frames := 7, cells := 1, slots := 6, locals := 103 } (re_P D [(cI, .int), (cJ, .long)] (xW h hn ow fi ma ro ha oa na sa he ob nb sb cI cJ ic lc stp ap cnt len fo ff fk fr oA cA rA tA gA nA sA oB cB rB tB gB nB sB) tp [.ref h, .int x, .int y]) "java/lang/IllegalArgumentException" := by
  refine vx_ofW (cc := cX2_latch) (maxL := 4) (ret := (some .int)) (by decide) rfl ?_
  intro p e s m args below meth c s₁ B hml hno hv
  obtain ⟨rfl, ⟨hP, hK⟩, hE⟩ := hv
  have hx := B.exec
  have hb := B.bytes
  have hr := B.returns
  have hts := atoms_spec (ws := wsX2_latch) B.pre
  have hown : s.vm.findClass RX2 = some m.cls := findClass_of_methodNamed B.named
  have hlocks := B.notSynchronized
  have hl := lv_entry ([.ref h, .int x, .int y]) (n := 4) (Nat.le_of_ble_eq_true rfl)
  rw [lg_entry_eq]
  generalize (lg_sl ([.ref h, .int x, .int y]) ++ List.replicate (4 - (lg_sl ([.ref h, .int x, .int y])).length) Slot.unset).toArray = ls at hl ⊢
  have hl : lv_has ls 4 [(0, .ref h), (1, .int x), (2, .int y)] := hl
  have hP : va_P D vwCl [(h, .inr (2, [.ref hn, .ref ha, .ref he, .int (nI ic), .int (nI lc), .int (nI stp), .int ap])), (hn, .inr (1, [.int (nI cnt), .ref ow, .ref fi, .ref ma, .ref ro])), (ow, .inl (cI, 400, .inl fo)), (fi, .inl (cI, 400, .inl ff)), (ma, .inl (cJ, 400, .inr (.inl fk))), (ro, .inl (cJ, len, .inr (.inl fr))), (ha, .inr (0, [.ref oa, .ref na, .ref sa, .int (nI oA), .int (nI cA), .int (nI rA), .int (nI tA)])), (oa, .inl (cI, 16, .inl (fun j => nI (gA j)))), (na, .inl (cI, 4, .inl (fun j => nI (nA j)))), (sa, .inl (cI, 16, .inl sA)), (he, .inr (0, [.ref ob, .ref nb, .ref sb, .int (nI oB), .int (nI cB), .int (nI rB), .int (nI tB)])), (ob, .inl (cI, 16, .inl (fun j => nI (gB j)))), (nb, .inl (cI, 4, .inl (fun j => nI (nB j)))), (sb, .inl (cI, 16, .inl sB))] s.heap := hP
  have hin2 : ∀ w ∈ wsX20, w ∈ wsX2_latch := by decide +kernel
  have kf47 := hts (.fieldLink RX2 47 "SweepEqual" "latchCount" "I") (by decide +kernel)
  have kf12 := hts (.fieldLink RX2 12 "SweepEqual" "nodes" "LSweepEqual$Nodes;") (by decide +kernel)
  have kf19 := hts (.fieldLink RX2 19 "SweepEqual" "designA" "LSweepEqual$Design;") (by decide +kernel)
  have kf23 := hts (.fieldLink RX2 23 "SweepEqual" "designB" "LSweepEqual$Design;") (by decide +kernel)
  refine lv_aload_n hx hb dX2_latch_0 rfl (lv_at hl 0 rfl) ?_
  refine va_get (D := D) (ci := 2) (v := .int (nI lc)) (C := RX2) (T := TX2) (N := 7) hx hb hts hin2 hown hK hP 0 rfl rfl 4 (by decide) kf47 (fun _ h9 => h9) rfl dX2_latch_1 ?_
  refine lv_iconst (v := nI 4) hx hb dX2_latch_4 (by decide) ?_
  refine lv_icmp_ne (tgt := 18) hx hb dX2_latch_5 (by decide) (fun c1 => ?_) (fun c1 => ?_)
  · have c1 : ¬ lc = 4 := fun h => c1 ((nI_eq (by omega) (by omega)).mpr h)
    refine lv_aload_n hx hb dX2_latch_18 rfl (lv_at hl 0 rfl) ?_
    refine rv_V (As := []) (rest := []) ⟨hx, hb, hml, hown, hts⟩ (c_X2_needRoomForNode l D cI cJ tp h hn ow fi ma ro ha oa na sa he ob nb sb ic lc stp ap cnt len fo ff fk fr oA cA rA tA gA nA sA oB cB rB tB gB nB sB hr0 (by omega)) (cwV 0 hts gX2_latch_X2_needRoomForNode rfl rfl rfl (by decide +kernel) ⟨Nat.le_of_ble_eq_true rfl, Nat.le_of_ble_eq_true rfl⟩) (re_pv (ci := 2) (q0 := 0) hK hP hE rfl rfl) rfl hl.1 rfl (Nat.le_of_ble_eq_true rfl) dX2_latch_19 ⟨Nat.zero_le _, Nat.zero_le _⟩ ?_
    refine lv_aload_n hx hb dX2_latch_22 rfl (lv_at hl 0 rfl) ?_
    refine lv_iload_n hx hb dX2_latch_23 rfl (lv_at hl 1 rfl) ?_
    refine rv_V (As := [.int x]) (rest := []) ⟨hx, hb, hml, hown, hts⟩ (c_X2_needStart l D cI cJ tp h hn ow fi ma ro ha oa na sa he ob nb sb ic lc stp ap cnt len fo ff fk fr oA cA rA tA gA nA sA oB cB rB tB gB nB sB x hx8) (cwV 1 hts gX2_latch_X2_needStart rfl rfl rfl (by decide +kernel) ⟨Nat.le_of_ble_eq_true rfl, Nat.le_of_ble_eq_true rfl⟩) (re_pv (ci := 2) (q0 := 0) hK hP hE rfl rfl) rfl hl.1 rfl (Nat.le_of_ble_eq_true rfl) dX2_latch_24 ⟨Nat.zero_le _, Nat.zero_le _⟩ ?_
    refine lv_aload_n hx hb dX2_latch_27 rfl (lv_at hl 0 rfl) ?_
    refine lv_iload_n hx hb dX2_latch_28 rfl (lv_at hl 2 rfl) ?_
    exact th_V (As := [.int y]) (rest := []) ⟨hx, hb, hml, hown, hts⟩ (t_X2_needStart l D cI cJ tp h hn ow fi ma ro ha oa na sa he ob nb sb ic lc stp ap cnt len fo ff fk fr oA cA rA tA gA nA sA oB cB rB tB gB nB sB hl9 y hx9) (cwV 1 hts gX2_latch_X2_needStart rfl rfl rfl (by decide +kernel) ⟨Nat.le_of_ble_eq_true rfl, Nat.le_of_ble_eq_true rfl⟩) (re_pv (ci := 2) (q0 := 0) hK hP hE rfl rfl) rfl hl.1 rfl (Nat.le_of_ble_eq_true rfl) dX2_latch_29 ⟨Nat.le_of_ble_eq_true rfl, Nat.le_of_ble_eq_true rfl⟩ hno hlocks
  · have c1 : lc = 4 := (nI_eq (by omega) (by omega)).mp c1
    exact absurd c1 (by omega)
set_option maxHeartbeats 4000000 in
set_option maxRecDepth 100000 in
/-- and: no such side -/
theorem t_X2_and1 (hl9 : l.stackTraces = false) (sd x y : Int32) (hs : ¬ (sd = 0 ∨ sd = 1)) : TH l yX2_and wsX2_and { frames := 7, cells := 1, slots := 6, locals := 103 } (re_P D [(cI, .int), (cJ, .long)] (xW h hn ow fi ma ro ha oa na sa he ob nb sb cI cJ ic lc stp ap cnt len fo ff fk fr oA cA rA tA gA nA sA oB cB rB tB gB nB sB) tp [.ref h, .int sd, .int x, .int y]) "java/lang/IndexOutOfBoundsException" := by
  refine vx_ofW (cc := cX2_and) (maxL := 4) (ret := (some .int)) (by decide) rfl ?_
  intro p e s m args below meth c s₁ B hml hno hv
  obtain ⟨rfl, ⟨hP, hK⟩, hE⟩ := hv
  have hx := B.exec
  have hb := B.bytes
  have hr := B.returns
  have hts := atoms_spec (ws := wsX2_and) B.pre
  have hown : s.vm.findClass RX2 = some m.cls := findClass_of_methodNamed B.named
  have hlocks := B.notSynchronized
  have hl := lv_entry ([.ref h, .int sd, .int x, .int y]) (n := 4) (Nat.le_of_ble_eq_true rfl)
  rw [lg_entry_eq]
  generalize (lg_sl ([.ref h, .int sd, .int x, .int y]) ++ List.replicate (4 - (lg_sl ([.ref h, .int sd, .int x, .int y])).length) Slot.unset).toArray = ls at hl ⊢
  have hl : lv_has ls 4 [(0, .ref h), (1, .int sd), (2, .int x), (3, .int y)] := hl
  have hP : va_P D vwCl [(h, .inr (2, [.ref hn, .ref ha, .ref he, .int (nI ic), .int (nI lc), .int (nI stp), .int ap])), (hn, .inr (1, [.int (nI cnt), .ref ow, .ref fi, .ref ma, .ref ro])), (ow, .inl (cI, 400, .inl fo)), (fi, .inl (cI, 400, .inl ff)), (ma, .inl (cJ, 400, .inr (.inl fk))), (ro, .inl (cJ, len, .inr (.inl fr))), (ha, .inr (0, [.ref oa, .ref na, .ref sa, .int (nI oA), .int (nI cA), .int (nI rA), .int (nI tA)])), (oa, .inl (cI, 16, .inl (fun j => nI (gA j)))), (na, .inl (cI, 4, .inl (fun j => nI (nA j)))), (sa, .inl (cI, 16, .inl sA)), (he, .inr (0, [.ref ob, .ref nb, .ref sb, .int (nI oB), .int (nI cB), .int (nI rB), .int (nI tB)])), (ob, .inl (cI, 16, .inl (fun j => nI (gB j)))), (nb, .inl (cI, 4, .inl (fun j => nI (nB j)))), (sb, .inl (cI, 16, .inl sB))] s.heap := hP
  have hin2 : ∀ w ∈ wsX20, w ∈ wsX2_and := by decide +kernel
  have kf12 := hts (.fieldLink RX2 12 "SweepEqual" "nodes" "LSweepEqual$Nodes;") (by decide +kernel)
  refine lv_aload_n hx hb dX2_and_0 rfl (lv_at hl 0 rfl) ?_
  refine lv_iload_n hx hb dX2_and_1 rfl (lv_at hl 1 rfl) ?_
  exact th_V (As := [.int sd]) (rest := []) ⟨hx, hb, hml, hown, hts⟩ (t_X2_needSide l D cI cJ tp h hn ow fi ma ro ha oa na sa he ob nb sb ic lc stp ap cnt len fo ff fk fr oA cA rA tA gA nA sA oB cB rB tB gB nB sB hl9 sd hs) (cwV 1 hts gX2_and_X2_needSide rfl rfl rfl (by decide +kernel) ⟨Nat.le_of_ble_eq_true rfl, Nat.le_of_ble_eq_true rfl⟩) (re_pv (ci := 2) (q0 := 0) hK hP hE rfl rfl) rfl hl.1 rfl (Nat.le_of_ble_eq_true rfl) dX2_and_2 ⟨Nat.le_of_ble_eq_true rfl, Nat.le_of_ble_eq_true rfl⟩ hno hlocks
set_option maxHeartbeats 4000000 in
set_option maxRecDepth 100000 in
/-- and: no such first literal -/
theorem t_X2_and2 (hl9 : l.stackTraces = false) (sd x y : Int32) (hs : sd = 0 ∨ sd = 1) (hx9 : x < 0 ∨ nI (2 * cnt) ≤ x) : TH l yX2_and wsX2_and { frames := 7, cells := 1, slots := 6, locals := 103 } (re_P D [(cI, .int), (cJ, .long)] (xW h hn ow fi ma ro ha oa na sa he ob nb sb cI cJ ic lc stp ap cnt len fo ff fk fr oA cA rA tA gA nA sA oB cB rB tB gB nB sB) tp [.ref h, .int sd, .int x, .int y]) "java/lang/IndexOutOfBoundsException" := by
  refine vx_ofW (cc := cX2_and) (maxL := 4) (ret := (some .int)) (by decide) rfl ?_
  intro p e s m args below meth c s₁ B hml hno hv
  obtain ⟨rfl, ⟨hP, hK⟩, hE⟩ := hv
  have hx := B.exec
  have hb := B.bytes
  have hr := B.returns
  have hts := atoms_spec (ws := wsX2_and) B.pre
  have hown : s.vm.findClass RX2 = some m.cls := findClass_of_methodNamed B.named
  have hlocks := B.notSynchronized
  have hl := lv_entry ([.ref h, .int sd, .int x, .int y]) (n := 4) (Nat.le_of_ble_eq_true rfl)
  rw [lg_entry_eq]
  generalize (lg_sl ([.ref h, .int sd, .int x, .int y]) ++ List.replicate (4 - (lg_sl ([.ref h, .int sd, .int x, .int y])).length) Slot.unset).toArray = ls at hl ⊢
  have hl : lv_has ls 4 [(0, .ref h), (1, .int sd), (2, .int x), (3, .int y)] := hl
  have hP : va_P D vwCl [(h, .inr (2, [.ref hn, .ref ha, .ref he, .int (nI ic), .int (nI lc), .int (nI stp), .int ap])), (hn, .inr (1, [.int (nI cnt), .ref ow, .ref fi, .ref ma, .ref ro])), (ow, .inl (cI, 400, .inl fo)), (fi, .inl (cI, 400, .inl ff)), (ma, .inl (cJ, 400, .inr (.inl fk))), (ro, .inl (cJ, len, .inr (.inl fr))), (ha, .inr (0, [.ref oa, .ref na, .ref sa, .int (nI oA), .int (nI cA), .int (nI rA), .int (nI tA)])), (oa, .inl (cI, 16, .inl (fun j => nI (gA j)))), (na, .inl (cI, 4, .inl (fun j => nI (nA j)))), (sa, .inl (cI, 16, .inl sA)), (he, .inr (0, [.ref ob, .ref nb, .ref sb, .int (nI oB), .int (nI cB), .int (nI rB), .int (nI tB)])), (ob, .inl (cI, 16, .inl (fun j => nI (gB j)))), (nb, .inl (cI, 4, .inl (fun j => nI (nB j)))), (sb, .inl (cI, 16, .inl sB))] s.heap := hP
  have hin2 : ∀ w ∈ wsX20, w ∈ wsX2_and := by decide +kernel
  have kf12 := hts (.fieldLink RX2 12 "SweepEqual" "nodes" "LSweepEqual$Nodes;") (by decide +kernel)
  refine lv_aload_n hx hb dX2_and_0 rfl (lv_at hl 0 rfl) ?_
  refine lv_iload_n hx hb dX2_and_1 rfl (lv_at hl 1 rfl) ?_
  refine rv_V (As := [.int sd]) (rest := []) ⟨hx, hb, hml, hown, hts⟩ (c_X2_needSide l D cI cJ tp h hn ow fi ma ro ha oa na sa he ob nb sb ic lc stp ap cnt len fo ff fk fr oA cA rA tA gA nA sA oB cB rB tB gB nB sB sd hs) (cwV 1 hts gX2_and_X2_needSide rfl rfl rfl (by decide +kernel) ⟨Nat.le_of_ble_eq_true rfl, Nat.le_of_ble_eq_true rfl⟩) (re_pv (ci := 2) (q0 := 0) hK hP hE rfl rfl) rfl hl.1 rfl (Nat.le_of_ble_eq_true rfl) dX2_and_2 ⟨Nat.zero_le _, Nat.zero_le _⟩ ?_
  refine lv_aload_n hx hb dX2_and_5 rfl (lv_at hl 0 rfl) ?_
  refine lv_iload_n hx hb dX2_and_6 rfl (lv_at hl 2 rfl) ?_
  exact th_V (As := [.int x]) (rest := []) ⟨hx, hb, hml, hown, hts⟩ (t_X2_needLiteral l D cI cJ tp h hn ow fi ma ro ha oa na sa he ob nb sb ic lc stp ap cnt len fo ff fk fr oA cA rA tA gA nA sA oB cB rB tB gB nB sB hl9 x hx9) (cwV 1 hts gX2_and_X2_needLiteral rfl rfl rfl (by decide +kernel) ⟨Nat.le_of_ble_eq_true rfl, Nat.le_of_ble_eq_true rfl⟩) (re_pv (ci := 2) (q0 := 0) hK hP hE rfl rfl) rfl hl.1 rfl (Nat.le_of_ble_eq_true rfl) dX2_and_7 ⟨Nat.le_of_ble_eq_true rfl, Nat.le_of_ble_eq_true rfl⟩ hno hlocks
set_option maxHeartbeats 4000000 in
set_option maxRecDepth 100000 in
/-- and: no such second literal -/
theorem t_X2_and3 (hl9 : l.stackTraces = false) (sd x : Int32) (la : Nat) (hs : sd = 0 ∨ sd = 1) (h1 : la < 2 * cnt) (hc : cnt ≤ 400) (hx9 : x < 0 ∨ nI (2 * cnt) ≤ x) : TH l yX2_and wsX2_and { frames := 7, cells := 1, slots := 6, locals := 103 } (re_P D [(cI, .int), (cJ, .long)] (xW h hn ow fi ma ro ha oa na sa he ob nb sb cI cJ ic lc stp ap cnt len fo ff fk fr oA cA rA tA gA nA sA oB cB rB tB gB nB sB) tp [.ref h, .int sd, .int (nI la), .int x]) "java/lang/IndexOutOfBoundsException" := by
  refine vx_ofW (cc := cX2_and) (maxL := 4) (ret := (some .int)) (by decide) rfl ?_
  intro p e s m args below meth c s₁ B hml hno hv
  obtain ⟨rfl, ⟨hP, hK⟩, hE⟩ := hv
  have hx := B.exec
  have hb := B.bytes
  have hr := B.returns
  have hts := atoms_spec (ws := wsX2_and) B.pre
  have hown : s.vm.findClass RX2 = some m.cls := findClass_of_methodNamed B.named
  have hlocks := B.notSynchronized
  have hl := lv_entry ([.ref h, .int sd, .int (nI la), .int x]) (n := 4) (Nat.le_of_ble_eq_true rfl)
  rw [lg_entry_eq]
  generalize (lg_sl ([.ref h, .int sd, .int (nI la), .int x]) ++ List.replicate (4 - (lg_sl ([.ref h, .int sd, .int (nI la), .int x])).length) Slot.unset).toArray = ls at hl ⊢
  have hl : lv_has ls 4 [(0, .ref h), (1, .int sd), (2, .int (nI la)), (3, .int x)] := hl
  have hP : va_P D vwCl [(h, .inr (2, [.ref hn, .ref ha, .ref he, .int (nI ic), .int (nI lc), .int (nI stp), .int ap])), (hn, .inr (1, [.int (nI cnt), .ref ow, .ref fi, .ref ma, .ref ro])), (ow, .inl (cI, 400, .inl fo)), (fi, .inl (cI, 400, .inl ff)), (ma, .inl (cJ, 400, .inr (.inl fk))), (ro, .inl (cJ, len, .inr (.inl fr))), (ha, .inr (0, [.ref oa, .ref na, .ref sa, .int (nI oA), .int (nI cA), .int (nI rA), .int (nI tA)])), (oa, .inl (cI, 16, .inl (fun j => nI (gA j)))), (na, .inl (cI, 4, .inl (fun j => nI (nA j)))), (sa, .inl (cI, 16, .inl sA)), (he, .inr (0, [.ref ob, .ref nb, .ref sb, .int (nI oB), .int (nI cB), .int (nI rB), .int (nI tB)])), (ob, .inl (cI, 16, .inl (fun j => nI (gB j)))), (nb, .inl (cI, 4, .inl (fun j => nI (nB j)))), (sb, .inl (cI, 16, .inl sB))] s.heap := hP
  have hin2 : ∀ w ∈ wsX20, w ∈ wsX2_and := by decide +kernel
  have kf12 := hts (.fieldLink RX2 12 "SweepEqual" "nodes" "LSweepEqual$Nodes;") (by decide +kernel)
  refine lv_aload_n hx hb dX2_and_0 rfl (lv_at hl 0 rfl) ?_
  refine lv_iload_n hx hb dX2_and_1 rfl (lv_at hl 1 rfl) ?_
  refine rv_V (As := [.int sd]) (rest := []) ⟨hx, hb, hml, hown, hts⟩ (c_X2_needSide l D cI cJ tp h hn ow fi ma ro ha oa na sa he ob nb sb ic lc stp ap cnt len fo ff fk fr oA cA rA tA gA nA sA oB cB rB tB gB nB sB sd hs) (cwV 1 hts gX2_and_X2_needSide rfl rfl rfl (by decide +kernel) ⟨Nat.le_of_ble_eq_true rfl, Nat.le_of_ble_eq_true rfl⟩) (re_pv (ci := 2) (q0 := 0) hK hP hE rfl rfl) rfl hl.1 rfl (Nat.le_of_ble_eq_true rfl) dX2_and_2 ⟨Nat.zero_le _, Nat.zero_le _⟩ ?_
  refine lv_aload_n hx hb dX2_and_5 rfl (lv_at hl 0 rfl) ?_
  refine lv_iload_n hx hb dX2_and_6 rfl (lv_at hl 2 rfl) ?_
  refine rv_V (As := [.int (nI la)]) (rest := []) ⟨hx, hb, hml, hown, hts⟩ (c_X2_needLiteral l D cI cJ tp h hn ow fi ma ro ha oa na sa he ob nb sb ic lc stp ap cnt len fo ff fk fr oA cA rA tA gA nA sA oB cB rB tB gB nB sB la h1 (by omega)) (cwV 1 hts gX2_and_X2_needLiteral rfl rfl rfl (by decide +kernel) ⟨Nat.le_of_ble_eq_true rfl, Nat.le_of_ble_eq_true rfl⟩) (re_pv (ci := 2) (q0 := 0) hK hP hE rfl rfl) rfl hl.1 rfl (Nat.le_of_ble_eq_true rfl) dX2_and_7 ⟨Nat.zero_le _, Nat.zero_le _⟩ ?_
  refine lv_aload_n hx hb dX2_and_10 rfl (lv_at hl 0 rfl) ?_
  refine lv_iload_n hx hb dX2_and_11 rfl (lv_at hl 3 rfl) ?_
  exact th_V (As := [.int x]) (rest := []) ⟨hx, hb, hml, hown, hts⟩ (t_X2_needLiteral l D cI cJ tp h hn ow fi ma ro ha oa na sa he ob nb sb ic lc stp ap cnt len fo ff fk fr oA cA rA tA gA nA sA oB cB rB tB gB nB sB hl9 x hx9) (cwV 1 hts gX2_and_X2_needLiteral rfl rfl rfl (by decide +kernel) ⟨Nat.le_of_ble_eq_true rfl, Nat.le_of_ble_eq_true rfl⟩) (re_pv (ci := 2) (q0 := 0) hK hP hE rfl rfl) rfl hl.1 rfl (Nat.le_of_ble_eq_true rfl) dX2_and_12 ⟨Nat.le_of_ble_eq_true rfl, Nat.le_of_ble_eq_true rfl⟩ hno hlocks
set_option maxHeartbeats 4000000 in
set_option maxRecDepth 100000 in
/-- and: 400 nodes -/
theorem t_X2_and4 (hl9 : l.stackTraces = false) (sd : Int32) (la lb : Nat) (hs : sd = 0 ∨ sd = 1) (h1 : la < 2 * cnt) (h2 : lb < 2 * cnt) (hc : cnt ≤ 400) (hr0 : cnt = 400) : TH l yX2_and wsX2_and { frames := 7, cells := 1, slots := 6, locals := 103 } (re_P D [(cI, .int), (cJ, .long)] (xW h hn ow fi ma ro ha oa na sa he ob nb sb cI cJ ic lc stp ap cnt len fo ff fk fr oA cA rA tA gA nA sA oB cB rB tB gB nB sB) tp [.ref h, .int sd, .int (nI la), .int (nI lb)]) "java/lang/IllegalStateException" := by
  refine vx_ofW (cc := cX2_and) (maxL := 4) (ret := (some .int)) (by decide) rfl ?_
  intro p e s m args below meth c s₁ B hml hno hv
  obtain ⟨rfl, ⟨hP, hK⟩, hE⟩ := hv
  have hx := B.exec
  have hb := B.bytes
  have hr := B.returns
  have hts := atoms_spec (ws := wsX2_and) B.pre
  have hown : s.vm.findClass RX2 = some m.cls := findClass_of_methodNamed B.named
  have hlocks := B.notSynchronized
  have hl := lv_entry ([.ref h, .int sd, .int (nI la), .int (nI lb)]) (n := 4) (Nat.le_of_ble_eq_true rfl)
  rw [lg_entry_eq]
  generalize (lg_sl ([.ref h, .int sd, .int (nI la), .int (nI lb)]) ++ List.replicate (4 - (lg_sl ([.ref h, .int sd, .int (nI la), .int (nI lb)])).length) Slot.unset).toArray = ls at hl ⊢
  have hl : lv_has ls 4 [(0, .ref h), (1, .int sd), (2, .int (nI la)), (3, .int (nI lb))] := hl
  have hP : va_P D vwCl [(h, .inr (2, [.ref hn, .ref ha, .ref he, .int (nI ic), .int (nI lc), .int (nI stp), .int ap])), (hn, .inr (1, [.int (nI cnt), .ref ow, .ref fi, .ref ma, .ref ro])), (ow, .inl (cI, 400, .inl fo)), (fi, .inl (cI, 400, .inl ff)), (ma, .inl (cJ, 400, .inr (.inl fk))), (ro, .inl (cJ, len, .inr (.inl fr))), (ha, .inr (0, [.ref oa, .ref na, .ref sa, .int (nI oA), .int (nI cA), .int (nI rA), .int (nI tA)])), (oa, .inl (cI, 16, .inl (fun j => nI (gA j)))), (na, .inl (cI, 4, .inl (fun j => nI (nA j)))), (sa, .inl (cI, 16, .inl sA)), (he, .inr (0, [.ref ob, .ref nb, .ref sb, .int (nI oB), .int (nI cB), .int (nI rB), .int (nI tB)])), (ob, .inl (cI, 16, .inl (fun j => nI (gB j)))), (nb, .inl (cI, 4, .inl (fun j => nI (nB j)))), (sb, .inl (cI, 16, .inl sB))] s.heap := hP
  have hin2 : ∀ w ∈ wsX20, w ∈ wsX2_and := by decide +kernel
  have kf12 := hts (.fieldLink RX2 12 "SweepEqual" "nodes" "LSweepEqual$Nodes;") (by decide +kernel)
  refine lv_aload_n hx hb dX2_and_0 rfl (lv_at hl 0 rfl) ?_
  refine lv_iload_n hx hb dX2_and_1 rfl (lv_at hl 1 rfl) ?_
  refine rv_V (As := [.int sd]) (rest := []) ⟨hx, hb, hml, hown, hts⟩ (c_X2_needSide l D cI cJ tp h hn ow fi ma ro ha oa na sa he ob nb sb ic lc stp ap cnt len fo ff fk fr oA cA rA tA gA nA sA oB cB rB tB gB nB sB sd hs) (cwV 1 hts gX2_and_X2_needSide rfl rfl rfl (by decide +kernel) ⟨Nat.le_of_ble_eq_true rfl, Nat.le_of_ble_eq_true rfl⟩) (re_pv (ci := 2) (q0 := 0) hK hP hE rfl rfl) rfl hl.1 rfl (Nat.le_of_ble_eq_true rfl) dX2_and_2 ⟨Nat.zero_le _, Nat.zero_le _⟩ ?_
  refine lv_aload_n hx hb dX2_and_5 rfl (lv_at hl 0 rfl) ?_
  refine lv_iload_n hx hb dX2_and_6 rfl (lv_at hl 2 rfl) ?_
  refine rv_V (As := [.int (nI la)]) (rest := []) ⟨hx, hb, hml, hown, hts⟩ (c_X2_needLiteral l D cI cJ tp h hn ow fi ma ro ha oa na sa he ob nb sb ic lc stp ap cnt len fo ff fk fr oA cA rA tA gA nA sA oB cB rB tB gB nB sB la h1 (by omega)) (cwV 1 hts gX2_and_X2_needLiteral rfl rfl rfl (by decide +kernel) ⟨Nat.le_of_ble_eq_true rfl, Nat.le_of_ble_eq_true rfl⟩) (re_pv (ci := 2) (q0 := 0) hK hP hE rfl rfl) rfl hl.1 rfl (Nat.le_of_ble_eq_true rfl) dX2_and_7 ⟨Nat.zero_le _, Nat.zero_le _⟩ ?_
  refine lv_aload_n hx hb dX2_and_10 rfl (lv_at hl 0 rfl) ?_
  refine lv_iload_n hx hb dX2_and_11 rfl (lv_at hl 3 rfl) ?_
  refine rv_V (As := [.int (nI lb)]) (rest := []) ⟨hx, hb, hml, hown, hts⟩ (c_X2_needLiteral l D cI cJ tp h hn ow fi ma ro ha oa na sa he ob nb sb ic lc stp ap cnt len fo ff fk fr oA cA rA tA gA nA sA oB cB rB tB gB nB sB lb h2 (by omega)) (cwV 1 hts gX2_and_X2_needLiteral rfl rfl rfl (by decide +kernel) ⟨Nat.le_of_ble_eq_true rfl, Nat.le_of_ble_eq_true rfl⟩) (re_pv (ci := 2) (q0 := 0) hK hP hE rfl rfl) rfl hl.1 rfl (Nat.le_of_ble_eq_true rfl) dX2_and_12 ⟨Nat.zero_le _, Nat.zero_le _⟩ ?_
  refine lv_aload_n hx hb dX2_and_15 rfl (lv_at hl 0 rfl) ?_
  exact th_V (As := []) (rest := []) ⟨hx, hb, hml, hown, hts⟩ (t_X2_needRoomForNode l D cI cJ tp h hn ow fi ma ro ha oa na sa he ob nb sb ic lc stp ap cnt len fo ff fk fr oA cA rA tA gA nA sA oB cB rB tB gB nB sB hl9 hr0) (cwV 0 hts gX2_and_X2_needRoomForNode rfl rfl rfl (by decide +kernel) ⟨Nat.le_of_ble_eq_true rfl, Nat.le_of_ble_eq_true rfl⟩) (re_pv (ci := 2) (q0 := 0) hK hP hE rfl rfl) rfl hl.1 rfl (Nat.le_of_ble_eq_true rfl) dX2_and_16 ⟨Nat.le_of_ble_eq_true rfl, Nat.le_of_ble_eq_true rfl⟩ hno hlocks
set_option maxHeartbeats 4000000 in
set_option maxRecDepth 100000 in
/-- and: the first is of the other side -/
theorem t_X2_and5 (hl9 : l.stackTraces = false) (sd : Int32) (la lb : Nat) (hs : sd = 0 ∨ sd = 1) (h1 : la < 2 * cnt) (h2 : lb < 2 * cnt) (hc : cnt ≤ 400) (hr0 : ¬ cnt = 400) (hoa : ¬ fo (la / 2) = -1 ∧ ¬ fo (la / 2) = sd) : TH l yX2_and wsX2_and { frames := 7, cells := 1, slots := 6, locals := 104 } (re_P D [(cI, .int), (cJ, .long)] (xW h hn ow fi ma ro ha oa na sa he ob nb sb cI cJ ic lc stp ap cnt len fo ff fk fr oA cA rA tA gA nA sA oB cB rB tB gB nB sB) tp [.ref h, .int sd, .int (nI la), .int (nI lb)]) "java/lang/IllegalArgumentException" := by
  refine vx_ofW (cc := cX2_and) (maxL := 4) (ret := (some .int)) (by decide) rfl ?_
  intro p e s m args below meth c s₁ B hml hno hv
  obtain ⟨rfl, ⟨hP, hK⟩, hE⟩ := hv
  have hx := B.exec
  have hb := B.bytes
  have hr := B.returns
  have hts := atoms_spec (ws := wsX2_and) B.pre
  have hown : s.vm.findClass RX2 = some m.cls := findClass_of_methodNamed B.named
  have hlocks := B.notSynchronized
  have hl := lv_entry ([.ref h, .int sd, .int (nI la), .int (nI lb)]) (n := 4) (Nat.le_of_ble_eq_true rfl)
  rw [lg_entry_eq]
  generalize (lg_sl ([.ref h, .int sd, .int (nI la), .int (nI lb)]) ++ List.replicate (4 - (lg_sl ([.ref h, .int sd, .int (nI la), .int (nI lb)])).length) Slot.unset).toArray = ls at hl ⊢
  have hl : lv_has ls 4 [(0, .ref h), (1, .int sd), (2, .int (nI la)), (3, .int (nI lb))] := hl
  have hP : va_P D vwCl [(h, .inr (2, [.ref hn, .ref ha, .ref he, .int (nI ic), .int (nI lc), .int (nI stp), .int ap])), (hn, .inr (1, [.int (nI cnt), .ref ow, .ref fi, .ref ma, .ref ro])), (ow, .inl (cI, 400, .inl fo)), (fi, .inl (cI, 400, .inl ff)), (ma, .inl (cJ, 400, .inr (.inl fk))), (ro, .inl (cJ, len, .inr (.inl fr))), (ha, .inr (0, [.ref oa, .ref na, .ref sa, .int (nI oA), .int (nI cA), .int (nI rA), .int (nI tA)])), (oa, .inl (cI, 16, .inl (fun j => nI (gA j)))), (na, .inl (cI, 4, .inl (fun j => nI (nA j)))), (sa, .inl (cI, 16, .inl sA)), (he, .inr (0, [.ref ob, .ref nb, .ref sb, .int (nI oB), .int (nI cB), .int (nI rB), .int (nI tB)])), (ob, .inl (cI, 16, .inl (fun j => nI (gB j)))), (nb, .inl (cI, 4, .inl (fun j => nI (nB j)))), (sb, .inl (cI, 16, .inl sB))] s.heap := hP
  have hin2 : ∀ w ∈ wsX20, w ∈ wsX2_and := by decide +kernel
  have kf12 := hts (.fieldLink RX2 12 "SweepEqual" "nodes" "LSweepEqual$Nodes;") (by decide +kernel)
  refine lv_aload_n hx hb dX2_and_0 rfl (lv_at hl 0 rfl) ?_
  refine lv_iload_n hx hb dX2_and_1 rfl (lv_at hl 1 rfl) ?_
  refine rv_V (As := [.int sd]) (rest := []) ⟨hx, hb, hml, hown, hts⟩ (c_X2_needSide l D cI cJ tp h hn ow fi ma ro ha oa na sa he ob nb sb ic lc stp ap cnt len fo ff fk fr oA cA rA tA gA nA sA oB cB rB tB gB nB sB sd hs) (cwV 1 hts gX2_and_X2_needSide rfl rfl rfl (by decide +kernel) ⟨Nat.le_of_ble_eq_true rfl, Nat.le_of_ble_eq_true rfl⟩) (re_pv (ci := 2) (q0 := 0) hK hP hE rfl rfl) rfl hl.1 rfl (Nat.le_of_ble_eq_true rfl) dX2_and_2 ⟨Nat.zero_le _, Nat.zero_le _⟩ ?_
  refine lv_aload_n hx hb dX2_and_5 rfl (lv_at hl 0 rfl) ?_
  refine lv_iload_n hx hb dX2_and_6 rfl (lv_at hl 2 rfl) ?_
  refine rv_V (As := [.int (nI la)]) (rest := []) ⟨hx, hb, hml, hown, hts⟩ (c_X2_needLiteral l D cI cJ tp h hn ow fi ma ro ha oa na sa he ob nb sb ic lc stp ap cnt len fo ff fk fr oA cA rA tA gA nA sA oB cB rB tB gB nB sB la h1 (by omega)) (cwV 1 hts gX2_and_X2_needLiteral rfl rfl rfl (by decide +kernel) ⟨Nat.le_of_ble_eq_true rfl, Nat.le_of_ble_eq_true rfl⟩) (re_pv (ci := 2) (q0 := 0) hK hP hE rfl rfl) rfl hl.1 rfl (Nat.le_of_ble_eq_true rfl) dX2_and_7 ⟨Nat.zero_le _, Nat.zero_le _⟩ ?_
  refine lv_aload_n hx hb dX2_and_10 rfl (lv_at hl 0 rfl) ?_
  refine lv_iload_n hx hb dX2_and_11 rfl (lv_at hl 3 rfl) ?_
  refine rv_V (As := [.int (nI lb)]) (rest := []) ⟨hx, hb, hml, hown, hts⟩ (c_X2_needLiteral l D cI cJ tp h hn ow fi ma ro ha oa na sa he ob nb sb ic lc stp ap cnt len fo ff fk fr oA cA rA tA gA nA sA oB cB rB tB gB nB sB lb h2 (by omega)) (cwV 1 hts gX2_and_X2_needLiteral rfl rfl rfl (by decide +kernel) ⟨Nat.le_of_ble_eq_true rfl, Nat.le_of_ble_eq_true rfl⟩) (re_pv (ci := 2) (q0 := 0) hK hP hE rfl rfl) rfl hl.1 rfl (Nat.le_of_ble_eq_true rfl) dX2_and_12 ⟨Nat.zero_le _, Nat.zero_le _⟩ ?_
  refine lv_aload_n hx hb dX2_and_15 rfl (lv_at hl 0 rfl) ?_
  refine rv_V (As := []) (rest := []) ⟨hx, hb, hml, hown, hts⟩ (c_X2_needRoomForNode l D cI cJ tp h hn ow fi ma ro ha oa na sa he ob nb sb ic lc stp ap cnt len fo ff fk fr oA cA rA tA gA nA sA oB cB rB tB gB nB sB hr0 (by omega)) (cwV 0 hts gX2_and_X2_needRoomForNode rfl rfl rfl (by decide +kernel) ⟨Nat.le_of_ble_eq_true rfl, Nat.le_of_ble_eq_true rfl⟩) (re_pv (ci := 2) (q0 := 0) hK hP hE rfl rfl) rfl hl.1 rfl (Nat.le_of_ble_eq_true rfl) dX2_and_16 ⟨Nat.zero_le _, Nat.zero_le _⟩ ?_
  refine lv_aload_n hx hb dX2_and_19 rfl (lv_at hl 0 rfl) ?_
  refine lv_iload_n hx hb dX2_and_20 rfl (lv_at hl 1 rfl) ?_
  refine lv_iload_n hx hb dX2_and_21 rfl (lv_at hl 2 rfl) ?_
  exact th_V (As := [.int sd, .int (nI la)]) (rest := []) ⟨hx, hb, hml, hown, hts⟩ (t_X2_needOwn l D cI cJ tp h hn ow fi ma ro ha oa na sa he ob nb sb ic lc stp ap cnt len fo ff fk fr oA cA rA tA gA nA sA oB cB rB tB gB nB sB hl9 sd la hoa (by omega)) (cwV 2 hts gX2_and_X2_needOwn rfl rfl rfl (by decide +kernel) ⟨Nat.le_of_ble_eq_true rfl, Nat.le_of_ble_eq_true rfl⟩) (re_pv (ci := 2) (q0 := 0) hK hP hE rfl rfl) rfl hl.1 rfl (Nat.le_of_ble_eq_true rfl) dX2_and_22 ⟨Nat.le_of_ble_eq_true rfl, Nat.le_of_ble_eq_true rfl⟩ hno hlocks
set_option maxHeartbeats 4000000 in
set_option maxRecDepth 100000 in
/-- and: the second is of the other side -/
theorem t_X2_and6 (hl9 : l.stackTraces = false) (sd : Int32) (la lb : Nat) (hs : sd = 0 ∨ sd = 1) (h1 : la < 2 * cnt) (h2 : lb < 2 * cnt) (hc : cnt ≤ 400) (hr0 : ¬ cnt = 400) (hoa : ¬ (¬ fo (la / 2) = -1 ∧ ¬ fo (la / 2) = sd)) (hob : ¬ fo (lb / 2) = -1 ∧ ¬ fo (lb / 2) = sd) : TH l yX2_and wsX2_and { frames := 7, cells := 1, slots := 6, locals := 104 } (re_P D [(cI, .int), (cJ, .long)] (xW h hn ow fi ma ro ha oa na sa he ob nb sb cI cJ ic lc stp ap cnt len fo ff fk fr oA cA rA tA gA nA sA oB cB rB tB gB nB sB) tp [.ref h, .int sd, .int (nI la), .int (nI lb)]) "java/lang/IllegalArgumentException" := by
  refine vx_ofW (cc := cX2_and) (maxL := 4) (ret := (some .int)) (by decide) rfl ?_
  intro p e s m args below meth c s₁ B hml hno hv
  obtain ⟨rfl, ⟨hP, hK⟩, hE⟩ := hv
  have hx := B.exec
  have hb := B.bytes
  have hr := B.returns
  have hts := atoms_spec (ws := wsX2_and) B.pre
  have hown : s.vm.findClass RX2 = some m.cls := findClass_of_methodNamed B.named
  have hlocks := B.notSynchronized
  have hl := lv_entry ([.ref h, .int sd, .int (nI la), .int (nI lb)]) (n := 4) (Nat.le_of_ble_eq_true rfl)
  rw [lg_entry_eq]
  generalize (lg_sl ([.ref h, .int sd, .int (nI la), .int (nI lb)]) ++ List.replicate (4 - (lg_sl ([.ref h, .int sd, .int (nI la), .int (nI lb)])).length) Slot.unset).toArray = ls at hl ⊢
  have hl : lv_has ls 4 [(0, .ref h), (1, .int sd), (2, .int (nI la)), (3, .int (nI lb))] := hl
  have hP : va_P D vwCl [(h, .inr (2, [.ref hn, .ref ha, .ref he, .int (nI ic), .int (nI lc), .int (nI stp), .int ap])), (hn, .inr (1, [.int (nI cnt), .ref ow, .ref fi, .ref ma, .ref ro])), (ow, .inl (cI, 400, .inl fo)), (fi, .inl (cI, 400, .inl ff)), (ma, .inl (cJ, 400, .inr (.inl fk))), (ro, .inl (cJ, len, .inr (.inl fr))), (ha, .inr (0, [.ref oa, .ref na, .ref sa, .int (nI oA), .int (nI cA), .int (nI rA), .int (nI tA)])), (oa, .inl (cI, 16, .inl (fun j => nI (gA j)))), (na, .inl (cI, 4, .inl (fun j => nI (nA j)))), (sa, .inl (cI, 16, .inl sA)), (he, .inr (0, [.ref ob, .ref nb, .ref sb, .int (nI oB), .int (nI cB), .int (nI rB), .int (nI tB)])), (ob, .inl (cI, 16, .inl (fun j => nI (gB j)))), (nb, .inl (cI, 4, .inl (fun j => nI (nB j)))), (sb, .inl (cI, 16, .inl sB))] s.heap := hP
  have hin2 : ∀ w ∈ wsX20, w ∈ wsX2_and := by decide +kernel
  have kf12 := hts (.fieldLink RX2 12 "SweepEqual" "nodes" "LSweepEqual$Nodes;") (by decide +kernel)
  refine lv_aload_n hx hb dX2_and_0 rfl (lv_at hl 0 rfl) ?_
  refine lv_iload_n hx hb dX2_and_1 rfl (lv_at hl 1 rfl) ?_
  refine rv_V (As := [.int sd]) (rest := []) ⟨hx, hb, hml, hown, hts⟩ (c_X2_needSide l D cI cJ tp h hn ow fi ma ro ha oa na sa he ob nb sb ic lc stp ap cnt len fo ff fk fr oA cA rA tA gA nA sA oB cB rB tB gB nB sB sd hs) (cwV 1 hts gX2_and_X2_needSide rfl rfl rfl (by decide +kernel) ⟨Nat.le_of_ble_eq_true rfl, Nat.le_of_ble_eq_true rfl⟩) (re_pv (ci := 2) (q0 := 0) hK hP hE rfl rfl) rfl hl.1 rfl (Nat.le_of_ble_eq_true rfl) dX2_and_2 ⟨Nat.zero_le _, Nat.zero_le _⟩ ?_
  refine lv_aload_n hx hb dX2_and_5 rfl (lv_at hl 0 rfl) ?_
  refine lv_iload_n hx hb dX2_and_6 rfl (lv_at hl 2 rfl) ?_
  refine rv_V (As := [.int (nI la)]) (rest := []) ⟨hx, hb, hml, hown, hts⟩ (c_X2_needLiteral l D cI cJ tp h hn ow fi ma ro ha oa na sa he ob nb sb ic lc stp ap cnt len fo ff fk fr oA cA rA tA gA nA sA oB cB rB tB gB nB sB la h1 (by omega)) (cwV 1 hts gX2_and_X2_needLiteral rfl rfl rfl (by decide +kernel) ⟨Nat.le_of_ble_eq_true rfl, Nat.le_of_ble_eq_true rfl⟩) (re_pv (ci := 2) (q0 := 0) hK hP hE rfl rfl) rfl hl.1 rfl (Nat.le_of_ble_eq_true rfl) dX2_and_7 ⟨Nat.zero_le _, Nat.zero_le _⟩ ?_
  refine lv_aload_n hx hb dX2_and_10 rfl (lv_at hl 0 rfl) ?_
  refine lv_iload_n hx hb dX2_and_11 rfl (lv_at hl 3 rfl) ?_
  refine rv_V (As := [.int (nI lb)]) (rest := []) ⟨hx, hb, hml, hown, hts⟩ (c_X2_needLiteral l D cI cJ tp h hn ow fi ma ro ha oa na sa he ob nb sb ic lc stp ap cnt len fo ff fk fr oA cA rA tA gA nA sA oB cB rB tB gB nB sB lb h2 (by omega)) (cwV 1 hts gX2_and_X2_needLiteral rfl rfl rfl (by decide +kernel) ⟨Nat.le_of_ble_eq_true rfl, Nat.le_of_ble_eq_true rfl⟩) (re_pv (ci := 2) (q0 := 0) hK hP hE rfl rfl) rfl hl.1 rfl (Nat.le_of_ble_eq_true rfl) dX2_and_12 ⟨Nat.zero_le _, Nat.zero_le _⟩ ?_
  refine lv_aload_n hx hb dX2_and_15 rfl (lv_at hl 0 rfl) ?_
  refine rv_V (As := []) (rest := []) ⟨hx, hb, hml, hown, hts⟩ (c_X2_needRoomForNode l D cI cJ tp h hn ow fi ma ro ha oa na sa he ob nb sb ic lc stp ap cnt len fo ff fk fr oA cA rA tA gA nA sA oB cB rB tB gB nB sB hr0 (by omega)) (cwV 0 hts gX2_and_X2_needRoomForNode rfl rfl rfl (by decide +kernel) ⟨Nat.le_of_ble_eq_true rfl, Nat.le_of_ble_eq_true rfl⟩) (re_pv (ci := 2) (q0 := 0) hK hP hE rfl rfl) rfl hl.1 rfl (Nat.le_of_ble_eq_true rfl) dX2_and_16 ⟨Nat.zero_le _, Nat.zero_le _⟩ ?_
  refine lv_aload_n hx hb dX2_and_19 rfl (lv_at hl 0 rfl) ?_
  refine lv_iload_n hx hb dX2_and_20 rfl (lv_at hl 1 rfl) ?_
  refine lv_iload_n hx hb dX2_and_21 rfl (lv_at hl 2 rfl) ?_
  refine rv_V (As := [.int sd, .int (nI la)]) (rest := []) ⟨hx, hb, hml, hown, hts⟩ (c_X2_needOwn l D cI cJ tp h hn ow fi ma ro ha oa na sa he ob nb sb ic lc stp ap cnt len fo ff fk fr oA cA rA tA gA nA sA oB cB rB tB gB nB sB sd la hoa (by omega)) (cwV 2 hts gX2_and_X2_needOwn rfl rfl rfl (by decide +kernel) ⟨Nat.le_of_ble_eq_true rfl, Nat.le_of_ble_eq_true rfl⟩) (re_pv (ci := 2) (q0 := 0) hK hP hE rfl rfl) rfl hl.1 rfl (Nat.le_of_ble_eq_true rfl) dX2_and_22 ⟨Nat.zero_le _, Nat.zero_le _⟩ ?_
  refine lv_aload_n hx hb dX2_and_25 rfl (lv_at hl 0 rfl) ?_
  refine lv_iload_n hx hb dX2_and_26 rfl (lv_at hl 1 rfl) ?_
  refine lv_iload_n hx hb dX2_and_27 rfl (lv_at hl 3 rfl) ?_
  exact th_V (As := [.int sd, .int (nI lb)]) (rest := []) ⟨hx, hb, hml, hown, hts⟩ (t_X2_needOwn l D cI cJ tp h hn ow fi ma ro ha oa na sa he ob nb sb ic lc stp ap cnt len fo ff fk fr oA cA rA tA gA nA sA oB cB rB tB gB nB sB hl9 sd lb hob (by omega)) (cwV 2 hts gX2_and_X2_needOwn rfl rfl rfl (by decide +kernel) ⟨Nat.le_of_ble_eq_true rfl, Nat.le_of_ble_eq_true rfl⟩) (re_pv (ci := 2) (q0 := 0) hK hP hE rfl rfl) rfl hl.1 rfl (Nat.le_of_ble_eq_true rfl) dX2_and_28 ⟨Nat.le_of_ble_eq_true rfl, Nat.le_of_ble_eq_true rfl⟩ hno hlocks
set_option maxHeartbeats 4000000 in
set_option maxRecDepth 100000 in
/-- output: no such side -/
theorem t_X2_output1 (hl9 : l.stackTraces = false) (sd x : Int32) (hs : ¬ (sd = 0 ∨ sd = 1)) : TH l yX2_output wsX2_output { frames := 7, cells := 1, slots := 6, locals := 103 } (re_P D [(cI, .int), (cJ, .long)] (xW h hn ow fi ma ro ha oa na sa he ob nb sb cI cJ ic lc stp ap cnt len fo ff fk fr oA cA rA tA gA nA sA oB cB rB tB gB nB sB) tp [.ref h, .int sd, .int x]) "java/lang/IndexOutOfBoundsException" := by
  refine vx_ofW (cc := cX2_output) (maxL := 4) (ret := (some .int)) (by decide) rfl ?_
  intro p e s m args below meth c s₁ B hml hno hv
  obtain ⟨rfl, ⟨hP, hK⟩, hE⟩ := hv
  have hx := B.exec
  have hb := B.bytes
  have hr := B.returns
  have hts := atoms_spec (ws := wsX2_output) B.pre
  have hown : s.vm.findClass RX2 = some m.cls := findClass_of_methodNamed B.named
  have hlocks := B.notSynchronized
  have hl := lv_entry ([.ref h, .int sd, .int x]) (n := 4) (Nat.le_of_ble_eq_true rfl)
  rw [lg_entry_eq]
  generalize (lg_sl ([.ref h, .int sd, .int x]) ++ List.replicate (4 - (lg_sl ([.ref h, .int sd, .int x])).length) Slot.unset).toArray = ls at hl ⊢
  have hl : lv_has ls 4 [(0, .ref h), (1, .int sd), (2, .int x)] := hl
  have hP : va_P D vwCl [(h, .inr (2, [.ref hn, .ref ha, .ref he, .int (nI ic), .int (nI lc), .int (nI stp), .int ap])), (hn, .inr (1, [.int (nI cnt), .ref ow, .ref fi, .ref ma, .ref ro])), (ow, .inl (cI, 400, .inl fo)), (fi, .inl (cI, 400, .inl ff)), (ma, .inl (cJ, 400, .inr (.inl fk))), (ro, .inl (cJ, len, .inr (.inl fr))), (ha, .inr (0, [.ref oa, .ref na, .ref sa, .int (nI oA), .int (nI cA), .int (nI rA), .int (nI tA)])), (oa, .inl (cI, 16, .inl (fun j => nI (gA j)))), (na, .inl (cI, 4, .inl (fun j => nI (nA j)))), (sa, .inl (cI, 16, .inl sA)), (he, .inr (0, [.ref ob, .ref nb, .ref sb, .int (nI oB), .int (nI cB), .int (nI rB), .int (nI tB)])), (ob, .inl (cI, 16, .inl (fun j => nI (gB j)))), (nb, .inl (cI, 4, .inl (fun j => nI (nB j)))), (sb, .inl (cI, 16, .inl sB))] s.heap := hP
  have hin0 : ∀ w ∈ wsX00, w ∈ wsX2_output := by decide +kernel
  have kf81 := hts (.fieldLink RX2 81 "SweepEqual$Design" "outputCount" "I") (by decide +kernel)
  refine lv_aload_n hx hb dX2_output_0 rfl (lv_at hl 0 rfl) ?_
  refine lv_iload_n hx hb dX2_output_1 rfl (lv_at hl 1 rfl) ?_
  exact th_V (As := [.int sd]) (rest := []) ⟨hx, hb, hml, hown, hts⟩ (t_X2_needSide l D cI cJ tp h hn ow fi ma ro ha oa na sa he ob nb sb ic lc stp ap cnt len fo ff fk fr oA cA rA tA gA nA sA oB cB rB tB gB nB sB hl9 sd hs) (cwV 1 hts gX2_output_X2_needSide rfl rfl rfl (by decide +kernel) ⟨Nat.le_of_ble_eq_true rfl, Nat.le_of_ble_eq_true rfl⟩) (re_pv (ci := 2) (q0 := 0) hK hP hE rfl rfl) rfl hl.1 rfl (Nat.le_of_ble_eq_true rfl) dX2_output_2 ⟨Nat.le_of_ble_eq_true rfl, Nat.le_of_ble_eq_true rfl⟩ hno hlocks
set_option maxHeartbeats 4000000 in
set_option maxRecDepth 100000 in
/-- output: no such literal -/
theorem t_X2_output2 (hl9 : l.stackTraces = false) (sd x : Int32) (hs : sd = 0 ∨ sd = 1) (hx9 : x < 0 ∨ nI (2 * cnt) ≤ x) : TH l yX2_output wsX2_output { frames := 7, cells := 1, slots := 6, locals := 103 } (re_P D [(cI, .int), (cJ, .long)] (xW h hn ow fi ma ro ha oa na sa he ob nb sb cI cJ ic lc stp ap cnt len fo ff fk fr oA cA rA tA gA nA sA oB cB rB tB gB nB sB) tp [.ref h, .int sd, .int x]) "java/lang/IndexOutOfBoundsException" := by
  refine vx_ofW (cc := cX2_output) (maxL := 4) (ret := (some .int)) (by decide) rfl ?_
  intro p e s m args below meth c s₁ B hml hno hv
  obtain ⟨rfl, ⟨hP, hK⟩, hE⟩ := hv
  have hx := B.exec
  have hb := B.bytes
  have hr := B.returns
  have hts := atoms_spec (ws := wsX2_output) B.pre
  have hown : s.vm.findClass RX2 = some m.cls := findClass_of_methodNamed B.named
  have hlocks := B.notSynchronized
  have hl := lv_entry ([.ref h, .int sd, .int x]) (n := 4) (Nat.le_of_ble_eq_true rfl)
  rw [lg_entry_eq]
  generalize (lg_sl ([.ref h, .int sd, .int x]) ++ List.replicate (4 - (lg_sl ([.ref h, .int sd, .int x])).length) Slot.unset).toArray = ls at hl ⊢
  have hl : lv_has ls 4 [(0, .ref h), (1, .int sd), (2, .int x)] := hl
  have hP : va_P D vwCl [(h, .inr (2, [.ref hn, .ref ha, .ref he, .int (nI ic), .int (nI lc), .int (nI stp), .int ap])), (hn, .inr (1, [.int (nI cnt), .ref ow, .ref fi, .ref ma, .ref ro])), (ow, .inl (cI, 400, .inl fo)), (fi, .inl (cI, 400, .inl ff)), (ma, .inl (cJ, 400, .inr (.inl fk))), (ro, .inl (cJ, len, .inr (.inl fr))), (ha, .inr (0, [.ref oa, .ref na, .ref sa, .int (nI oA), .int (nI cA), .int (nI rA), .int (nI tA)])), (oa, .inl (cI, 16, .inl (fun j => nI (gA j)))), (na, .inl (cI, 4, .inl (fun j => nI (nA j)))), (sa, .inl (cI, 16, .inl sA)), (he, .inr (0, [.ref ob, .ref nb, .ref sb, .int (nI oB), .int (nI cB), .int (nI rB), .int (nI tB)])), (ob, .inl (cI, 16, .inl (fun j => nI (gB j)))), (nb, .inl (cI, 4, .inl (fun j => nI (nB j)))), (sb, .inl (cI, 16, .inl sB))] s.heap := hP
  have hin0 : ∀ w ∈ wsX00, w ∈ wsX2_output := by decide +kernel
  have kf81 := hts (.fieldLink RX2 81 "SweepEqual$Design" "outputCount" "I") (by decide +kernel)
  refine lv_aload_n hx hb dX2_output_0 rfl (lv_at hl 0 rfl) ?_
  refine lv_iload_n hx hb dX2_output_1 rfl (lv_at hl 1 rfl) ?_
  refine rv_V (As := [.int sd]) (rest := []) ⟨hx, hb, hml, hown, hts⟩ (c_X2_needSide l D cI cJ tp h hn ow fi ma ro ha oa na sa he ob nb sb ic lc stp ap cnt len fo ff fk fr oA cA rA tA gA nA sA oB cB rB tB gB nB sB sd hs) (cwV 1 hts gX2_output_X2_needSide rfl rfl rfl (by decide +kernel) ⟨Nat.le_of_ble_eq_true rfl, Nat.le_of_ble_eq_true rfl⟩) (re_pv (ci := 2) (q0 := 0) hK hP hE rfl rfl) rfl hl.1 rfl (Nat.le_of_ble_eq_true rfl) dX2_output_2 ⟨Nat.zero_le _, Nat.zero_le _⟩ ?_
  refine lv_aload_n hx hb dX2_output_5 rfl (lv_at hl 0 rfl) ?_
  refine lv_iload_n hx hb dX2_output_6 rfl (lv_at hl 2 rfl) ?_
  exact th_V (As := [.int x]) (rest := []) ⟨hx, hb, hml, hown, hts⟩ (t_X2_needLiteral l D cI cJ tp h hn ow fi ma ro ha oa na sa he ob nb sb ic lc stp ap cnt len fo ff fk fr oA cA rA tA gA nA sA oB cB rB tB gB nB sB hl9 x hx9) (cwV 1 hts gX2_output_X2_needLiteral rfl rfl rfl (by decide +kernel) ⟨Nat.le_of_ble_eq_true rfl, Nat.le_of_ble_eq_true rfl⟩) (re_pv (ci := 2) (q0 := 0) hK hP hE rfl rfl) rfl hl.1 rfl (Nat.le_of_ble_eq_true rfl) dX2_output_7 ⟨Nat.le_of_ble_eq_true rfl, Nat.le_of_ble_eq_true rfl⟩ hno hlocks
set_option maxHeartbeats 4000000 in
set_option maxRecDepth 100000 in
/-- output: there are 16 -/
theorem t_X2_output3_0 (hl9 : l.stackTraces = false) (lit : Nat) (h1 : lit < 2 * cnt) (hc : cnt ≤ 400) (h16 : oA = 16) : TH l yX2_output wsX2_output { frames := 7, cells := 1, slots := 6, locals := 103 } (re_P D [(cI, .int), (cJ, .long)] (xW h hn ow fi ma ro ha oa na sa he ob nb sb cI cJ ic lc stp ap cnt len fo ff fk fr oA cA rA tA gA nA sA oB cB rB tB gB nB sB) tp [.ref h, .int 0, .int (nI lit)]) "java/lang/IllegalStateException" := by
  refine vx_ofW (cc := cX2_output) (maxL := 4) (ret := (some .int)) (by decide) rfl ?_
  intro p e s m args below meth c s₁ B hml hno hv
  obtain ⟨rfl, ⟨hP, hK⟩, hE⟩ := hv
  have hx := B.exec
  have hb := B.bytes
  have hr := B.returns
  have hts := atoms_spec (ws := wsX2_output) B.pre
  have hown : s.vm.findClass RX2 = some m.cls := findClass_of_methodNamed B.named
  have hlocks := B.notSynchronized
  have hl := lv_entry ([.ref h, .int 0, .int (nI lit)]) (n := 4) (Nat.le_of_ble_eq_true rfl)
  rw [lg_entry_eq]
  generalize (lg_sl ([.ref h, .int 0, .int (nI lit)]) ++ List.replicate (4 - (lg_sl ([.ref h, .int 0, .int (nI lit)])).length) Slot.unset).toArray = ls at hl ⊢
  have hl : lv_has ls 4 [(0, .ref h), (1, .int 0), (2, .int (nI lit))] := hl
  have hP : va_P D vwCl [(h, .inr (2, [.ref hn, .ref ha, .ref he, .int (nI ic), .int (nI lc), .int (nI stp), .int ap])), (hn, .inr (1, [.int (nI cnt), .ref ow, .ref fi, .ref ma, .ref ro])), (ow, .inl (cI, 400, .inl fo)), (fi, .inl (cI, 400, .inl ff)), (ma, .inl (cJ, 400, .inr (.inl fk))), (ro, .inl (cJ, len, .inr (.inl fr))), (ha, .inr (0, [.ref oa, .ref na, .ref sa, .int (nI oA), .int (nI cA), .int (nI rA), .int (nI tA)])), (oa, .inl (cI, 16, .inl (fun j => nI (gA j)))), (na, .inl (cI, 4, .inl (fun j => nI (nA j)))), (sa, .inl (cI, 16, .inl sA)), (he, .inr (0, [.ref ob, .ref nb, .ref sb, .int (nI oB), .int (nI cB), .int (nI rB), .int (nI tB)])), (ob, .inl (cI, 16, .inl (fun j => nI (gB j)))), (nb, .inl (cI, 4, .inl (fun j => nI (nB j)))), (sb, .inl (cI, 16, .inl sB))] s.heap := hP
  have hin0 : ∀ w ∈ wsX00, w ∈ wsX2_output := by decide +kernel
  have kf81 := hts (.fieldLink RX2 81 "SweepEqual$Design" "outputCount" "I") (by decide +kernel)
  have hgw_is : ∀ w ∈ (vx_atS RX2 37 "java/lang/IllegalStateException" xN).filter goodWord, w.before ([.ref h, .int 0, .int (nI lit)] : List Value).toArray s = true := fun w hw => hts w (inX_X2_output_is w hw)
  refine lv_aload_n hx hb dX2_output_0 rfl (lv_at hl 0 rfl) ?_
  refine lv_iload_n hx hb dX2_output_1 rfl (lv_at hl 1 rfl) ?_
  refine rv_V (As := [.int 0]) (rest := []) ⟨hx, hb, hml, hown, hts⟩ (c_X2_needSide l D cI cJ tp h hn ow fi ma ro ha oa na sa he ob nb sb ic lc stp ap cnt len fo ff fk fr oA cA rA tA gA nA sA oB cB rB tB gB nB sB 0 (by decide)) (cwV 1 hts gX2_output_X2_needSide rfl rfl rfl (by decide +kernel) ⟨Nat.le_of_ble_eq_true rfl, Nat.le_of_ble_eq_true rfl⟩) (re_pv (ci := 2) (q0 := 0) hK hP hE rfl rfl) rfl hl.1 rfl (Nat.le_of_ble_eq_true rfl) dX2_output_2 ⟨Nat.zero_le _, Nat.zero_le _⟩ ?_
  refine lv_aload_n hx hb dX2_output_5 rfl (lv_at hl 0 rfl) ?_
  refine lv_iload_n hx hb dX2_output_6 rfl (lv_at hl 2 rfl) ?_
  refine rv_V (As := [.int (nI lit)]) (rest := []) ⟨hx, hb, hml, hown, hts⟩ (c_X2_needLiteral l D cI cJ tp h hn ow fi ma ro ha oa na sa he ob nb sb ic lc stp ap cnt len fo ff fk fr oA cA rA tA gA nA sA oB cB rB tB gB nB sB lit h1 (by omega)) (cwV 1 hts gX2_output_X2_needLiteral rfl rfl rfl (by decide +kernel) ⟨Nat.le_of_ble_eq_true rfl, Nat.le_of_ble_eq_true rfl⟩) (re_pv (ci := 2) (q0 := 0) hK hP hE rfl rfl) rfl hl.1 rfl (Nat.le_of_ble_eq_true rfl) dX2_output_7 ⟨Nat.zero_le _, Nat.zero_le _⟩ ?_
  refine lv_aload_n hx hb dX2_output_10 rfl (lv_at hl 0 rfl) ?_
  refine lv_iload_n hx hb dX2_output_11 rfl (lv_at hl 1 rfl) ?_
  refine rd_V (As := [.int 0]) (rest := []) ⟨hx, hb, hml, hown, hts⟩ (c_X2_designOf0 l D cI cJ tp h hn ow fi ma ro ha oa na sa he ob nb sb ic lc stp ap cnt len fo ff fk fr oA cA rA tA gA nA sA oB cB rB tB gB nB sB) (cwV 1 hts gX2_output_X2_designOf rfl rfl rfl (by decide +kernel) ⟨Nat.le_of_ble_eq_true rfl, Nat.le_of_ble_eq_true rfl⟩) (re_pv (ci := 2) (q0 := 0) hK hP hE rfl rfl) rfl hl.1 rfl (Nat.le_of_ble_eq_true rfl) dX2_output_12 ⟨Nat.zero_le _, Nat.zero_le _⟩ ?_
  refine lv_astore_n (lv' := [(3, .ref ha), (0, .ref h), (1, .int 0), (2, .int (nI lit))]) hx hb dX2_output_15 rfl hl (by decide) rfl (fun ls hl => ?_)
  refine lv_aload_n hx hb dX2_output_16 rfl (lv_at hl 0 rfl) ?_
  refine va_get (D := D) (ci := 0) (v := .int (nI oA)) (C := RX0) (T := TX0) (N := 7) hx hb hts hin0 hown hK hP 6 rfl rfl 3 (by decide) kf81 (fun _ h9 => h9) rfl dX2_output_17 ?_
  refine lv_bipush (v := nI 16) hx hb dX2_output_20 (by decide) ?_
  refine lv_icmp_ne (tgt := 35) hx hb dX2_output_22 (by decide) (fun c1 => ?_) (fun c1 => ?_)
  · have c1 : ¬ oA = 16 := fun h => c1 ((nI_eq (by omega) (by omega)).mpr h)
    exact absurd h16 c1
  · have c1 : oA = 16 := (nI_eq (by omega) (by omega)).mp c1
    exact th_S (cls := "java/lang/IllegalStateException") (text := "there are 16 outputs") hx hb hl9 hown (by decide +kernel) (hts (.classLink RX2 33 "java/lang/IllegalStateException") (by decide +kernel)) (hts (.initialized "java/lang/IllegalStateException") (by decide +kernel)) hgw_is hng_is hgd_is hE (by decide) (by decide) (by rw [hml]; exact hl.1) dX2_output_25 dX2_output_28 dX2_output_29 dX2_output_31 dX2_output_34 hno (Nat.le_of_ble_eq_true rfl) (Nat.le_of_ble_eq_true rfl) (Nat.le_of_ble_eq_true rfl) (Nat.le_of_ble_eq_true rfl) hlocks
set_option maxHeartbeats 4000000 in
set_option maxRecDepth 100000 in
/-- output: of the other side -/
theorem t_X2_output4_0 (hl9 : l.stackTraces = false) (lit : Nat) (h1 : lit < 2 * cnt) (hc : cnt ≤ 400) (h16 : oA < 16) (ho : ¬ fo (lit / 2) = -1 ∧ ¬ fo (lit / 2) = 0) : TH l yX2_output wsX2_output { frames := 7, cells := 1, slots := 6, locals := 104 } (re_P D [(cI, .int), (cJ, .long)] (xW h hn ow fi ma ro ha oa na sa he ob nb sb cI cJ ic lc stp ap cnt len fo ff fk fr oA cA rA tA gA nA sA oB cB rB tB gB nB sB) tp [.ref h, .int 0, .int (nI lit)]) "java/lang/IllegalArgumentException" := by
  refine vx_ofW (cc := cX2_output) (maxL := 4) (ret := (some .int)) (by decide) rfl ?_
  intro p e s m args below meth c s₁ B hml hno hv
  obtain ⟨rfl, ⟨hP, hK⟩, hE⟩ := hv
  have hx := B.exec
  have hb := B.bytes
  have hr := B.returns
  have hts := atoms_spec (ws := wsX2_output) B.pre
  have hown : s.vm.findClass RX2 = some m.cls := findClass_of_methodNamed B.named
  have hlocks := B.notSynchronized
  have hl := lv_entry ([.ref h, .int 0, .int (nI lit)]) (n := 4) (Nat.le_of_ble_eq_true rfl)
  rw [lg_entry_eq]
  generalize (lg_sl ([.ref h, .int 0, .int (nI lit)]) ++ List.replicate (4 - (lg_sl ([.ref h, .int 0, .int (nI lit)])).length) Slot.unset).toArray = ls at hl ⊢
  have hl : lv_has ls 4 [(0, .ref h), (1, .int 0), (2, .int (nI lit))] := hl
  have hP : va_P D vwCl [(h, .inr (2, [.ref hn, .ref ha, .ref he, .int (nI ic), .int (nI lc), .int (nI stp), .int ap])), (hn, .inr (1, [.int (nI cnt), .ref ow, .ref fi, .ref ma, .ref ro])), (ow, .inl (cI, 400, .inl fo)), (fi, .inl (cI, 400, .inl ff)), (ma, .inl (cJ, 400, .inr (.inl fk))), (ro, .inl (cJ, len, .inr (.inl fr))), (ha, .inr (0, [.ref oa, .ref na, .ref sa, .int (nI oA), .int (nI cA), .int (nI rA), .int (nI tA)])), (oa, .inl (cI, 16, .inl (fun j => nI (gA j)))), (na, .inl (cI, 4, .inl (fun j => nI (nA j)))), (sa, .inl (cI, 16, .inl sA)), (he, .inr (0, [.ref ob, .ref nb, .ref sb, .int (nI oB), .int (nI cB), .int (nI rB), .int (nI tB)])), (ob, .inl (cI, 16, .inl (fun j => nI (gB j)))), (nb, .inl (cI, 4, .inl (fun j => nI (nB j)))), (sb, .inl (cI, 16, .inl sB))] s.heap := hP
  have hin0 : ∀ w ∈ wsX00, w ∈ wsX2_output := by decide +kernel
  have kf81 := hts (.fieldLink RX2 81 "SweepEqual$Design" "outputCount" "I") (by decide +kernel)
  refine lv_aload_n hx hb dX2_output_0 rfl (lv_at hl 0 rfl) ?_
  refine lv_iload_n hx hb dX2_output_1 rfl (lv_at hl 1 rfl) ?_
  refine rv_V (As := [.int 0]) (rest := []) ⟨hx, hb, hml, hown, hts⟩ (c_X2_needSide l D cI cJ tp h hn ow fi ma ro ha oa na sa he ob nb sb ic lc stp ap cnt len fo ff fk fr oA cA rA tA gA nA sA oB cB rB tB gB nB sB 0 (by decide)) (cwV 1 hts gX2_output_X2_needSide rfl rfl rfl (by decide +kernel) ⟨Nat.le_of_ble_eq_true rfl, Nat.le_of_ble_eq_true rfl⟩) (re_pv (ci := 2) (q0 := 0) hK hP hE rfl rfl) rfl hl.1 rfl (Nat.le_of_ble_eq_true rfl) dX2_output_2 ⟨Nat.zero_le _, Nat.zero_le _⟩ ?_
  refine lv_aload_n hx hb dX2_output_5 rfl (lv_at hl 0 rfl) ?_
  refine lv_iload_n hx hb dX2_output_6 rfl (lv_at hl 2 rfl) ?_
  refine rv_V (As := [.int (nI lit)]) (rest := []) ⟨hx, hb, hml, hown, hts⟩ (c_X2_needLiteral l D cI cJ tp h hn ow fi ma ro ha oa na sa he ob nb sb ic lc stp ap cnt len fo ff fk fr oA cA rA tA gA nA sA oB cB rB tB gB nB sB lit h1 (by omega)) (cwV 1 hts gX2_output_X2_needLiteral rfl rfl rfl (by decide +kernel) ⟨Nat.le_of_ble_eq_true rfl, Nat.le_of_ble_eq_true rfl⟩) (re_pv (ci := 2) (q0 := 0) hK hP hE rfl rfl) rfl hl.1 rfl (Nat.le_of_ble_eq_true rfl) dX2_output_7 ⟨Nat.zero_le _, Nat.zero_le _⟩ ?_
  refine lv_aload_n hx hb dX2_output_10 rfl (lv_at hl 0 rfl) ?_
  refine lv_iload_n hx hb dX2_output_11 rfl (lv_at hl 1 rfl) ?_
  refine rd_V (As := [.int 0]) (rest := []) ⟨hx, hb, hml, hown, hts⟩ (c_X2_designOf0 l D cI cJ tp h hn ow fi ma ro ha oa na sa he ob nb sb ic lc stp ap cnt len fo ff fk fr oA cA rA tA gA nA sA oB cB rB tB gB nB sB) (cwV 1 hts gX2_output_X2_designOf rfl rfl rfl (by decide +kernel) ⟨Nat.le_of_ble_eq_true rfl, Nat.le_of_ble_eq_true rfl⟩) (re_pv (ci := 2) (q0 := 0) hK hP hE rfl rfl) rfl hl.1 rfl (Nat.le_of_ble_eq_true rfl) dX2_output_12 ⟨Nat.zero_le _, Nat.zero_le _⟩ ?_
  refine lv_astore_n (lv' := [(3, .ref ha), (0, .ref h), (1, .int 0), (2, .int (nI lit))]) hx hb dX2_output_15 rfl hl (by decide) rfl (fun ls hl => ?_)
  refine lv_aload_n hx hb dX2_output_16 rfl (lv_at hl 0 rfl) ?_
  refine va_get (D := D) (ci := 0) (v := .int (nI oA)) (C := RX0) (T := TX0) (N := 7) hx hb hts hin0 hown hK hP 6 rfl rfl 3 (by decide) kf81 (fun _ h9 => h9) rfl dX2_output_17 ?_
  refine lv_bipush (v := nI 16) hx hb dX2_output_20 (by decide) ?_
  refine lv_icmp_ne (tgt := 35) hx hb dX2_output_22 (by decide) (fun c1 => ?_) (fun c1 => ?_)
  · have c1 : ¬ oA = 16 := fun h => c1 ((nI_eq (by omega) (by omega)).mpr h)
    refine lv_aload_n hx hb dX2_output_35 rfl (lv_at hl 1 rfl) ?_
    refine lv_iload_n hx hb dX2_output_36 rfl (lv_at hl 2 rfl) ?_
    refine lv_iload_n hx hb dX2_output_37 rfl (lv_at hl 3 rfl) ?_
    exact th_V (As := [.int 0, .int (nI lit)]) (rest := []) ⟨hx, hb, hml, hown, hts⟩ (t_X2_needOwn l D cI cJ tp h hn ow fi ma ro ha oa na sa he ob nb sb ic lc stp ap cnt len fo ff fk fr oA cA rA tA gA nA sA oB cB rB tB gB nB sB hl9 0 lit ho (by omega)) (cwV 2 hts gX2_output_X2_needOwn rfl rfl rfl (by decide +kernel) ⟨Nat.le_of_ble_eq_true rfl, Nat.le_of_ble_eq_true rfl⟩) (re_pv (ci := 2) (q0 := 0) hK hP hE rfl rfl) rfl hl.1 rfl (Nat.le_of_ble_eq_true rfl) dX2_output_38 ⟨Nat.le_of_ble_eq_true rfl, Nat.le_of_ble_eq_true rfl⟩ hno hlocks
  · have c1 : oA = 16 := (nI_eq (by omega) (by omega)).mp c1
    exact absurd c1 (by omega)
set_option maxHeartbeats 4000000 in
set_option maxRecDepth 100000 in
/-- output: there are 16 -/
theorem t_X2_output3_1 (hl9 : l.stackTraces = false) (lit : Nat) (h1 : lit < 2 * cnt) (hc : cnt ≤ 400) (h16 : oB = 16) : TH l yX2_output wsX2_output { frames := 7, cells := 1, slots := 6, locals := 104 } (re_P D [(cI, .int), (cJ, .long)] (xW h hn ow fi ma ro ha oa na sa he ob nb sb cI cJ ic lc stp ap cnt len fo ff fk fr oA cA rA tA gA nA sA oB cB rB tB gB nB sB) tp [.ref h, .int 1, .int (nI lit)]) "java/lang/IllegalStateException" := by
  refine vx_ofW (cc := cX2_output) (maxL := 4) (ret := (some .int)) (by decide) rfl ?_
  intro p e s m args below meth c s₁ B hml hno hv
  obtain ⟨rfl, ⟨hP, hK⟩, hE⟩ := hv
  have hx := B.exec
  have hb := B.bytes
  have hr := B.returns
  have hts := atoms_spec (ws := wsX2_output) B.pre
  have hown : s.vm.findClass RX2 = some m.cls := findClass_of_methodNamed B.named
  have hlocks := B.notSynchronized
  have hl := lv_entry ([.ref h, .int 1, .int (nI lit)]) (n := 4) (Nat.le_of_ble_eq_true rfl)
  rw [lg_entry_eq]
  generalize (lg_sl ([.ref h, .int 1, .int (nI lit)]) ++ List.replicate (4 - (lg_sl ([.ref h, .int 1, .int (nI lit)])).length) Slot.unset).toArray = ls at hl ⊢
  have hl : lv_has ls 4 [(0, .ref h), (1, .int 1), (2, .int (nI lit))] := hl
  have hP : va_P D vwCl [(h, .inr (2, [.ref hn, .ref ha, .ref he, .int (nI ic), .int (nI lc), .int (nI stp), .int ap])), (hn, .inr (1, [.int (nI cnt), .ref ow, .ref fi, .ref ma, .ref ro])), (ow, .inl (cI, 400, .inl fo)), (fi, .inl (cI, 400, .inl ff)), (ma, .inl (cJ, 400, .inr (.inl fk))), (ro, .inl (cJ, len, .inr (.inl fr))), (ha, .inr (0, [.ref oa, .ref na, .ref sa, .int (nI oA), .int (nI cA), .int (nI rA), .int (nI tA)])), (oa, .inl (cI, 16, .inl (fun j => nI (gA j)))), (na, .inl (cI, 4, .inl (fun j => nI (nA j)))), (sa, .inl (cI, 16, .inl sA)), (he, .inr (0, [.ref ob, .ref nb, .ref sb, .int (nI oB), .int (nI cB), .int (nI rB), .int (nI tB)])), (ob, .inl (cI, 16, .inl (fun j => nI (gB j)))), (nb, .inl (cI, 4, .inl (fun j => nI (nB j)))), (sb, .inl (cI, 16, .inl sB))] s.heap := hP
  have hin0 : ∀ w ∈ wsX00, w ∈ wsX2_output := by decide +kernel
  have kf81 := hts (.fieldLink RX2 81 "SweepEqual$Design" "outputCount" "I") (by decide +kernel)
  have hgw_is : ∀ w ∈ (vx_atS RX2 37 "java/lang/IllegalStateException" xN).filter goodWord, w.before ([.ref h, .int 1, .int (nI lit)] : List Value).toArray s = true := fun w hw => hts w (inX_X2_output_is w hw)
  refine lv_aload_n hx hb dX2_output_0 rfl (lv_at hl 0 rfl) ?_
  refine lv_iload_n hx hb dX2_output_1 rfl (lv_at hl 1 rfl) ?_
  refine rv_V (As := [.int 1]) (rest := []) ⟨hx, hb, hml, hown, hts⟩ (c_X2_needSide l D cI cJ tp h hn ow fi ma ro ha oa na sa he ob nb sb ic lc stp ap cnt len fo ff fk fr oA cA rA tA gA nA sA oB cB rB tB gB nB sB 1 (by decide)) (cwV 1 hts gX2_output_X2_needSide rfl rfl rfl (by decide +kernel) ⟨Nat.le_of_ble_eq_true rfl, Nat.le_of_ble_eq_true rfl⟩) (re_pv (ci := 2) (q0 := 0) hK hP hE rfl rfl) rfl hl.1 rfl (Nat.le_of_ble_eq_true rfl) dX2_output_2 ⟨Nat.zero_le _, Nat.zero_le _⟩ ?_
  refine lv_aload_n hx hb dX2_output_5 rfl (lv_at hl 0 rfl) ?_
  refine lv_iload_n hx hb dX2_output_6 rfl (lv_at hl 2 rfl) ?_
  refine rv_V (As := [.int (nI lit)]) (rest := []) ⟨hx, hb, hml, hown, hts⟩ (c_X2_needLiteral l D cI cJ tp h hn ow fi ma ro ha oa na sa he ob nb sb ic lc stp ap cnt len fo ff fk fr oA cA rA tA gA nA sA oB cB rB tB gB nB sB lit h1 (by omega)) (cwV 1 hts gX2_output_X2_needLiteral rfl rfl rfl (by decide +kernel) ⟨Nat.le_of_ble_eq_true rfl, Nat.le_of_ble_eq_true rfl⟩) (re_pv (ci := 2) (q0 := 0) hK hP hE rfl rfl) rfl hl.1 rfl (Nat.le_of_ble_eq_true rfl) dX2_output_7 ⟨Nat.zero_le _, Nat.zero_le _⟩ ?_
  refine lv_aload_n hx hb dX2_output_10 rfl (lv_at hl 0 rfl) ?_
  refine lv_iload_n hx hb dX2_output_11 rfl (lv_at hl 1 rfl) ?_
  refine rd_V (As := [.int 1]) (rest := []) ⟨hx, hb, hml, hown, hts⟩ (c_X2_designOf1 l D cI cJ tp h hn ow fi ma ro ha oa na sa he ob nb sb ic lc stp ap cnt len fo ff fk fr oA cA rA tA gA nA sA oB cB rB tB gB nB sB) (cwV 1 hts gX2_output_X2_designOf rfl rfl rfl (by decide +kernel) ⟨Nat.le_of_ble_eq_true rfl, Nat.le_of_ble_eq_true rfl⟩) (re_pv (ci := 2) (q0 := 0) hK hP hE rfl rfl) rfl hl.1 rfl (Nat.le_of_ble_eq_true rfl) dX2_output_12 ⟨Nat.zero_le _, Nat.zero_le _⟩ ?_
  refine lv_astore_n (lv' := [(3, .ref he), (0, .ref h), (1, .int 1), (2, .int (nI lit))]) hx hb dX2_output_15 rfl hl (by decide) rfl (fun ls hl => ?_)
  refine lv_aload_n hx hb dX2_output_16 rfl (lv_at hl 0 rfl) ?_
  refine va_get (D := D) (ci := 0) (v := .int (nI oB)) (C := RX0) (T := TX0) (N := 7) hx hb hts hin0 hown hK hP 10 rfl rfl 3 (by decide) kf81 (fun _ h9 => h9) rfl dX2_output_17 ?_
  refine lv_bipush (v := nI 16) hx hb dX2_output_20 (by decide) ?_
  refine lv_icmp_ne (tgt := 35) hx hb dX2_output_22 (by decide) (fun c1 => ?_) (fun c1 => ?_)
  · have c1 : ¬ oB = 16 := fun h => c1 ((nI_eq (by omega) (by omega)).mpr h)
    exact absurd h16 c1
  · have c1 : oB = 16 := (nI_eq (by omega) (by omega)).mp c1
    exact th_S (cls := "java/lang/IllegalStateException") (text := "there are 16 outputs") hx hb hl9 hown (by decide +kernel) (hts (.classLink RX2 33 "java/lang/IllegalStateException") (by decide +kernel)) (hts (.initialized "java/lang/IllegalStateException") (by decide +kernel)) hgw_is hng_is hgd_is hE (by decide) (by decide) (by rw [hml]; exact hl.1) dX2_output_25 dX2_output_28 dX2_output_29 dX2_output_31 dX2_output_34 hno (Nat.le_of_ble_eq_true rfl) (Nat.le_of_ble_eq_true rfl) (Nat.le_of_ble_eq_true rfl) (Nat.le_of_ble_eq_true rfl) hlocks
set_option maxHeartbeats 4000000 in
set_option maxRecDepth 100000 in
/-- output: of the other side -/
theorem t_X2_output4_1 (hl9 : l.stackTraces = false) (lit : Nat) (h1 : lit < 2 * cnt) (hc : cnt ≤ 400) (h16 : oB < 16) (ho : ¬ fo (lit / 2) = -1 ∧ ¬ fo (lit / 2) = 1) : TH l yX2_output wsX2_output { frames := 7, cells := 1, slots := 6, locals := 104 } (re_P D [(cI, .int), (cJ, .long)] (xW h hn ow fi ma ro ha oa na sa he ob nb sb cI cJ ic lc stp ap cnt len fo ff fk fr oA cA rA tA gA nA sA oB cB rB tB gB nB sB) tp [.ref h, .int 1, .int (nI lit)]) "java/lang/IllegalArgumentException" := by
  refine vx_ofW (cc := cX2_output) (maxL := 4) (ret := (some .int)) (by decide) rfl ?_
  intro p e s m args below meth c s₁ B hml hno hv
  obtain ⟨rfl, ⟨hP, hK⟩, hE⟩ := hv
  have hx := B.exec
  have hb := B.bytes
  have hr := B.returns
  have hts := atoms_spec (ws := wsX2_output) B.pre
  have hown : s.vm.findClass RX2 = some m.cls := findClass_of_methodNamed B.named
  have hlocks := B.notSynchronized
  have hl := lv_entry ([.ref h, .int 1, .int (nI lit)]) (n := 4) (Nat.le_of_ble_eq_true rfl)
  rw [lg_entry_eq]
  generalize (lg_sl ([.ref h, .int 1, .int (nI lit)]) ++ List.replicate (4 - (lg_sl ([.ref h, .int 1, .int (nI lit)])).length) Slot.unset).toArray = ls at hl ⊢
  have hl : lv_has ls 4 [(0, .ref h), (1, .int 1), (2, .int (nI lit))] := hl
  have hP : va_P D vwCl [(h, .inr (2, [.ref hn, .ref ha, .ref he, .int (nI ic), .int (nI lc), .int (nI stp), .int ap])), (hn, .inr (1, [.int (nI cnt), .ref ow, .ref fi, .ref ma, .ref ro])), (ow, .inl (cI, 400, .inl fo)), (fi, .inl (cI, 400, .inl ff)), (ma, .inl (cJ, 400, .inr (.inl fk))), (ro, .inl (cJ, len, .inr (.inl fr))), (ha, .inr (0, [.ref oa, .ref na, .ref sa, .int (nI oA), .int (nI cA), .int (nI rA), .int (nI tA)])), (oa, .inl (cI, 16, .inl (fun j => nI (gA j)))), (na, .inl (cI, 4, .inl (fun j => nI (nA j)))), (sa, .inl (cI, 16, .inl sA)), (he, .inr (0, [.ref ob, .ref nb, .ref sb, .int (nI oB), .int (nI cB), .int (nI rB), .int (nI tB)])), (ob, .inl (cI, 16, .inl (fun j => nI (gB j)))), (nb, .inl (cI, 4, .inl (fun j => nI (nB j)))), (sb, .inl (cI, 16, .inl sB))] s.heap := hP
  have hin0 : ∀ w ∈ wsX00, w ∈ wsX2_output := by decide +kernel
  have kf81 := hts (.fieldLink RX2 81 "SweepEqual$Design" "outputCount" "I") (by decide +kernel)
  refine lv_aload_n hx hb dX2_output_0 rfl (lv_at hl 0 rfl) ?_
  refine lv_iload_n hx hb dX2_output_1 rfl (lv_at hl 1 rfl) ?_
  refine rv_V (As := [.int 1]) (rest := []) ⟨hx, hb, hml, hown, hts⟩ (c_X2_needSide l D cI cJ tp h hn ow fi ma ro ha oa na sa he ob nb sb ic lc stp ap cnt len fo ff fk fr oA cA rA tA gA nA sA oB cB rB tB gB nB sB 1 (by decide)) (cwV 1 hts gX2_output_X2_needSide rfl rfl rfl (by decide +kernel) ⟨Nat.le_of_ble_eq_true rfl, Nat.le_of_ble_eq_true rfl⟩) (re_pv (ci := 2) (q0 := 0) hK hP hE rfl rfl) rfl hl.1 rfl (Nat.le_of_ble_eq_true rfl) dX2_output_2 ⟨Nat.zero_le _, Nat.zero_le _⟩ ?_
  refine lv_aload_n hx hb dX2_output_5 rfl (lv_at hl 0 rfl) ?_
  refine lv_iload_n hx hb dX2_output_6 rfl (lv_at hl 2 rfl) ?_
  refine rv_V (As := [.int (nI lit)]) (rest := []) ⟨hx, hb, hml, hown, hts⟩ (c_X2_needLiteral l D cI cJ tp h hn ow fi ma ro ha oa na sa he ob nb sb ic lc stp ap cnt len fo ff fk fr oA cA rA tA gA nA sA oB cB rB tB gB nB sB lit h1 (by omega)) (cwV 1 hts gX2_output_X2_needLiteral rfl rfl rfl (by decide +kernel) ⟨Nat.le_of_ble_eq_true rfl, Nat.le_of_ble_eq_true rfl⟩) (re_pv (ci := 2) (q0 := 0) hK hP hE rfl rfl) rfl hl.1 rfl (Nat.le_of_ble_eq_true rfl) dX2_output_7 ⟨Nat.zero_le _, Nat.zero_le _⟩ ?_
  refine lv_aload_n hx hb dX2_output_10 rfl (lv_at hl 0 rfl) ?_
  refine lv_iload_n hx hb dX2_output_11 rfl (lv_at hl 1 rfl) ?_
  refine rd_V (As := [.int 1]) (rest := []) ⟨hx, hb, hml, hown, hts⟩ (c_X2_designOf1 l D cI cJ tp h hn ow fi ma ro ha oa na sa he ob nb sb ic lc stp ap cnt len fo ff fk fr oA cA rA tA gA nA sA oB cB rB tB gB nB sB) (cwV 1 hts gX2_output_X2_designOf rfl rfl rfl (by decide +kernel) ⟨Nat.le_of_ble_eq_true rfl, Nat.le_of_ble_eq_true rfl⟩) (re_pv (ci := 2) (q0 := 0) hK hP hE rfl rfl) rfl hl.1 rfl (Nat.le_of_ble_eq_true rfl) dX2_output_12 ⟨Nat.zero_le _, Nat.zero_le _⟩ ?_
  refine lv_astore_n (lv' := [(3, .ref he), (0, .ref h), (1, .int 1), (2, .int (nI lit))]) hx hb dX2_output_15 rfl hl (by decide) rfl (fun ls hl => ?_)
  refine lv_aload_n hx hb dX2_output_16 rfl (lv_at hl 0 rfl) ?_
  refine va_get (D := D) (ci := 0) (v := .int (nI oB)) (C := RX0) (T := TX0) (N := 7) hx hb hts hin0 hown hK hP 10 rfl rfl 3 (by decide) kf81 (fun _ h9 => h9) rfl dX2_output_17 ?_
  refine lv_bipush (v := nI 16) hx hb dX2_output_20 (by decide) ?_
  refine lv_icmp_ne (tgt := 35) hx hb dX2_output_22 (by decide) (fun c1 => ?_) (fun c1 => ?_)
  · have c1 : ¬ oB = 16 := fun h => c1 ((nI_eq (by omega) (by omega)).mpr h)
    refine lv_aload_n hx hb dX2_output_35 rfl (lv_at hl 1 rfl) ?_
    refine lv_iload_n hx hb dX2_output_36 rfl (lv_at hl 2 rfl) ?_
    refine lv_iload_n hx hb dX2_output_37 rfl (lv_at hl 3 rfl) ?_
    exact th_V (As := [.int 1, .int (nI lit)]) (rest := []) ⟨hx, hb, hml, hown, hts⟩ (t_X2_needOwn l D cI cJ tp h hn ow fi ma ro ha oa na sa he ob nb sb ic lc stp ap cnt len fo ff fk fr oA cA rA tA gA nA sA oB cB rB tB gB nB sB hl9 1 lit ho (by omega)) (cwV 2 hts gX2_output_X2_needOwn rfl rfl rfl (by decide +kernel) ⟨Nat.le_of_ble_eq_true rfl, Nat.le_of_ble_eq_true rfl⟩) (re_pv (ci := 2) (q0 := 0) hK hP hE rfl rfl) rfl hl.1 rfl (Nat.le_of_ble_eq_true rfl) dX2_output_38 ⟨Nat.le_of_ble_eq_true rfl, Nat.le_of_ble_eq_true rfl⟩ hno hlocks
  · have c1 : oB = 16 := (nI_eq (by omega) (by omega)).mp c1
    exact absurd c1 (by omega)
set_option maxHeartbeats 4000000 in
set_option maxRecDepth 100000 in
/-- next: no such side -/
theorem t_X2_next1 (hl9 : l.stackTraces = false) (sd x y : Int32) (hs : ¬ (sd = 0 ∨ sd = 1)) : TH l yX2_next wsX2_next { frames := 7, cells := 1, slots := 6, locals := 103 } (re_P D [(cI, .int), (cJ, .long)] (xW h hn ow fi ma ro ha oa na sa he ob nb sb cI cJ ic lc stp ap cnt len fo ff fk fr oA cA rA tA gA nA sA oB cB rB tB gB nB sB) tp [.ref h, .int sd, .int x, .int y]) "java/lang/IndexOutOfBoundsException" := by
  refine vx_ofW (cc := cX2_next) (maxL := 6) (ret := (some .int)) (by decide) rfl ?_
  intro p e s m args below meth c s₁ B hml hno hv
  obtain ⟨rfl, ⟨hP, hK⟩, hE⟩ := hv
  have hx := B.exec
  have hb := B.bytes
  have hr := B.returns
  have hts := atoms_spec (ws := wsX2_next) B.pre
  have hown : s.vm.findClass RX2 = some m.cls := findClass_of_methodNamed B.named
  have hlocks := B.notSynchronized
  have hl := lv_entry ([.ref h, .int sd, .int x, .int y]) (n := 6) (Nat.le_of_ble_eq_true rfl)
  rw [lg_entry_eq]
  generalize (lg_sl ([.ref h, .int sd, .int x, .int y]) ++ List.replicate (6 - (lg_sl ([.ref h, .int sd, .int x, .int y])).length) Slot.unset).toArray = ls at hl ⊢
  have hl : lv_has ls 6 [(0, .ref h), (1, .int sd), (2, .int x), (3, .int y)] := hl
  have hP : va_P D vwCl [(h, .inr (2, [.ref hn, .ref ha, .ref he, .int (nI ic), .int (nI lc), .int (nI stp), .int ap])), (hn, .inr (1, [.int (nI cnt), .ref ow, .ref fi, .ref ma, .ref ro])), (ow, .inl (cI, 400, .inl fo)), (fi, .inl (cI, 400, .inl ff)), (ma, .inl (cJ, 400, .inr (.inl fk))), (ro, .inl (cJ, len, .inr (.inl fr))), (ha, .inr (0, [.ref oa, .ref na, .ref sa, .int (nI oA), .int (nI cA), .int (nI rA), .int (nI tA)])), (oa, .inl (cI, 16, .inl (fun j => nI (gA j)))), (na, .inl (cI, 4, .inl (fun j => nI (nA j)))), (sa, .inl (cI, 16, .inl sA)), (he, .inr (0, [.ref ob, .ref nb, .ref sb, .int (nI oB), .int (nI cB), .int (nI rB), .int (nI tB)])), (ob, .inl (cI, 16, .inl (fun j => nI (gB j)))), (nb, .inl (cI, 4, .inl (fun j => nI (nB j)))), (sb, .inl (cI, 16, .inl sB))] s.heap := hP
  have hin0 : ∀ w ∈ wsX00, w ∈ wsX2_next := by decide +kernel
  have kf92 := hts (.fieldLink RX2 92 "SweepEqual$Design" "nexts" "[I") (by decide +kernel)
  refine lv_aload_n hx hb dX2_next_0 rfl (lv_at hl 0 rfl) ?_
  refine lv_iload_n hx hb dX2_next_1 rfl (lv_at hl 1 rfl) ?_
  exact th_V (As := [.int sd]) (rest := []) ⟨hx, hb, hml, hown, hts⟩ (t_X2_needSide l D cI cJ tp h hn ow fi ma ro ha oa na sa he ob nb sb ic lc stp ap cnt len fo ff fk fr oA cA rA tA gA nA sA oB cB rB tB gB nB sB hl9 sd hs) (cwV 1 hts gX2_next_X2_needSide rfl rfl rfl (by decide +kernel) ⟨Nat.le_of_ble_eq_true rfl, Nat.le_of_ble_eq_true rfl⟩) (re_pv (ci := 2) (q0 := 0) hK hP hE rfl rfl) rfl hl.1 rfl (Nat.le_of_ble_eq_true rfl) dX2_next_2 ⟨Nat.le_of_ble_eq_true rfl, Nat.le_of_ble_eq_true rfl⟩ hno hlocks
set_option maxHeartbeats 4000000 in
set_option maxRecDepth 100000 in
/-- next: no such latch -/
theorem t_X2_next2 (hl9 : l.stackTraces = false) (sd x y : Int32) (hs : sd = 0 ∨ sd = 1) (hx9 : x < 0 ∨ nI lc ≤ x) : TH l yX2_next wsX2_next { frames := 7, cells := 1, slots := 6, locals := 103 } (re_P D [(cI, .int), (cJ, .long)] (xW h hn ow fi ma ro ha oa na sa he ob nb sb cI cJ ic lc stp ap cnt len fo ff fk fr oA cA rA tA gA nA sA oB cB rB tB gB nB sB) tp [.ref h, .int sd, .int x, .int y]) "java/lang/IndexOutOfBoundsException" := by
  refine vx_ofW (cc := cX2_next) (maxL := 6) (ret := (some .int)) (by decide) rfl ?_
  intro p e s m args below meth c s₁ B hml hno hv
  obtain ⟨rfl, ⟨hP, hK⟩, hE⟩ := hv
  have hx := B.exec
  have hb := B.bytes
  have hr := B.returns
  have hts := atoms_spec (ws := wsX2_next) B.pre
  have hown : s.vm.findClass RX2 = some m.cls := findClass_of_methodNamed B.named
  have hlocks := B.notSynchronized
  have hl := lv_entry ([.ref h, .int sd, .int x, .int y]) (n := 6) (Nat.le_of_ble_eq_true rfl)
  rw [lg_entry_eq]
  generalize (lg_sl ([.ref h, .int sd, .int x, .int y]) ++ List.replicate (6 - (lg_sl ([.ref h, .int sd, .int x, .int y])).length) Slot.unset).toArray = ls at hl ⊢
  have hl : lv_has ls 6 [(0, .ref h), (1, .int sd), (2, .int x), (3, .int y)] := hl
  have hP : va_P D vwCl [(h, .inr (2, [.ref hn, .ref ha, .ref he, .int (nI ic), .int (nI lc), .int (nI stp), .int ap])), (hn, .inr (1, [.int (nI cnt), .ref ow, .ref fi, .ref ma, .ref ro])), (ow, .inl (cI, 400, .inl fo)), (fi, .inl (cI, 400, .inl ff)), (ma, .inl (cJ, 400, .inr (.inl fk))), (ro, .inl (cJ, len, .inr (.inl fr))), (ha, .inr (0, [.ref oa, .ref na, .ref sa, .int (nI oA), .int (nI cA), .int (nI rA), .int (nI tA)])), (oa, .inl (cI, 16, .inl (fun j => nI (gA j)))), (na, .inl (cI, 4, .inl (fun j => nI (nA j)))), (sa, .inl (cI, 16, .inl sA)), (he, .inr (0, [.ref ob, .ref nb, .ref sb, .int (nI oB), .int (nI cB), .int (nI rB), .int (nI tB)])), (ob, .inl (cI, 16, .inl (fun j => nI (gB j)))), (nb, .inl (cI, 4, .inl (fun j => nI (nB j)))), (sb, .inl (cI, 16, .inl sB))] s.heap := hP
  have hin0 : ∀ w ∈ wsX00, w ∈ wsX2_next := by decide +kernel
  have kf92 := hts (.fieldLink RX2 92 "SweepEqual$Design" "nexts" "[I") (by decide +kernel)
  refine lv_aload_n hx hb dX2_next_0 rfl (lv_at hl 0 rfl) ?_
  refine lv_iload_n hx hb dX2_next_1 rfl (lv_at hl 1 rfl) ?_
  refine rv_V (As := [.int sd]) (rest := []) ⟨hx, hb, hml, hown, hts⟩ (c_X2_needSide l D cI cJ tp h hn ow fi ma ro ha oa na sa he ob nb sb ic lc stp ap cnt len fo ff fk fr oA cA rA tA gA nA sA oB cB rB tB gB nB sB sd hs) (cwV 1 hts gX2_next_X2_needSide rfl rfl rfl (by decide +kernel) ⟨Nat.le_of_ble_eq_true rfl, Nat.le_of_ble_eq_true rfl⟩) (re_pv (ci := 2) (q0 := 0) hK hP hE rfl rfl) rfl hl.1 rfl (Nat.le_of_ble_eq_true rfl) dX2_next_2 ⟨Nat.zero_le _, Nat.zero_le _⟩ ?_
  refine lv_aload_n hx hb dX2_next_5 rfl (lv_at hl 0 rfl) ?_
  refine lv_iload_n hx hb dX2_next_6 rfl (lv_at hl 2 rfl) ?_
  exact th_V (As := [.int x]) (rest := []) ⟨hx, hb, hml, hown, hts⟩ (t_X2_needLatch l D cI cJ tp h hn ow fi ma ro ha oa na sa he ob nb sb ic lc stp ap cnt len fo ff fk fr oA cA rA tA gA nA sA oB cB rB tB gB nB sB hl9 x hx9) (cwV 1 hts gX2_next_X2_needLatch rfl rfl rfl (by decide +kernel) ⟨Nat.le_of_ble_eq_true rfl, Nat.le_of_ble_eq_true rfl⟩) (re_pv (ci := 2) (q0 := 0) hK hP hE rfl rfl) rfl hl.1 rfl (Nat.le_of_ble_eq_true rfl) dX2_next_7 ⟨Nat.le_of_ble_eq_true rfl, Nat.le_of_ble_eq_true rfl⟩ hno hlocks
set_option maxHeartbeats 4000000 in
set_option maxRecDepth 100000 in
/-- next: no such literal -/
theorem t_X2_next3 (hl9 : l.stackTraces = false) (sd x : Int32) (lt : Nat) (hs : sd = 0 ∨ sd = 1) (hlt : lt < lc) (hlc : lc ≤ 4) (hx9 : x < 0 ∨ nI (2 * cnt) ≤ x) : TH l yX2_next wsX2_next { frames := 7, cells := 1, slots := 6, locals := 103 } (re_P D [(cI, .int), (cJ, .long)] (xW h hn ow fi ma ro ha oa na sa he ob nb sb cI cJ ic lc stp ap cnt len fo ff fk fr oA cA rA tA gA nA sA oB cB rB tB gB nB sB) tp [.ref h, .int sd, .int (nI lt), .int x]) "java/lang/IndexOutOfBoundsException" := by
  refine vx_ofW (cc := cX2_next) (maxL := 6) (ret := (some .int)) (by decide) rfl ?_
  intro p e s m args below meth c s₁ B hml hno hv
  obtain ⟨rfl, ⟨hP, hK⟩, hE⟩ := hv
  have hx := B.exec
  have hb := B.bytes
  have hr := B.returns
  have hts := atoms_spec (ws := wsX2_next) B.pre
  have hown : s.vm.findClass RX2 = some m.cls := findClass_of_methodNamed B.named
  have hlocks := B.notSynchronized
  have hl := lv_entry ([.ref h, .int sd, .int (nI lt), .int x]) (n := 6) (Nat.le_of_ble_eq_true rfl)
  rw [lg_entry_eq]
  generalize (lg_sl ([.ref h, .int sd, .int (nI lt), .int x]) ++ List.replicate (6 - (lg_sl ([.ref h, .int sd, .int (nI lt), .int x])).length) Slot.unset).toArray = ls at hl ⊢
  have hl : lv_has ls 6 [(0, .ref h), (1, .int sd), (2, .int (nI lt)), (3, .int x)] := hl
  have hP : va_P D vwCl [(h, .inr (2, [.ref hn, .ref ha, .ref he, .int (nI ic), .int (nI lc), .int (nI stp), .int ap])), (hn, .inr (1, [.int (nI cnt), .ref ow, .ref fi, .ref ma, .ref ro])), (ow, .inl (cI, 400, .inl fo)), (fi, .inl (cI, 400, .inl ff)), (ma, .inl (cJ, 400, .inr (.inl fk))), (ro, .inl (cJ, len, .inr (.inl fr))), (ha, .inr (0, [.ref oa, .ref na, .ref sa, .int (nI oA), .int (nI cA), .int (nI rA), .int (nI tA)])), (oa, .inl (cI, 16, .inl (fun j => nI (gA j)))), (na, .inl (cI, 4, .inl (fun j => nI (nA j)))), (sa, .inl (cI, 16, .inl sA)), (he, .inr (0, [.ref ob, .ref nb, .ref sb, .int (nI oB), .int (nI cB), .int (nI rB), .int (nI tB)])), (ob, .inl (cI, 16, .inl (fun j => nI (gB j)))), (nb, .inl (cI, 4, .inl (fun j => nI (nB j)))), (sb, .inl (cI, 16, .inl sB))] s.heap := hP
  have hin0 : ∀ w ∈ wsX00, w ∈ wsX2_next := by decide +kernel
  have kf92 := hts (.fieldLink RX2 92 "SweepEqual$Design" "nexts" "[I") (by decide +kernel)
  refine lv_aload_n hx hb dX2_next_0 rfl (lv_at hl 0 rfl) ?_
  refine lv_iload_n hx hb dX2_next_1 rfl (lv_at hl 1 rfl) ?_
  refine rv_V (As := [.int sd]) (rest := []) ⟨hx, hb, hml, hown, hts⟩ (c_X2_needSide l D cI cJ tp h hn ow fi ma ro ha oa na sa he ob nb sb ic lc stp ap cnt len fo ff fk fr oA cA rA tA gA nA sA oB cB rB tB gB nB sB sd hs) (cwV 1 hts gX2_next_X2_needSide rfl rfl rfl (by decide +kernel) ⟨Nat.le_of_ble_eq_true rfl, Nat.le_of_ble_eq_true rfl⟩) (re_pv (ci := 2) (q0 := 0) hK hP hE rfl rfl) rfl hl.1 rfl (Nat.le_of_ble_eq_true rfl) dX2_next_2 ⟨Nat.zero_le _, Nat.zero_le _⟩ ?_
  refine lv_aload_n hx hb dX2_next_5 rfl (lv_at hl 0 rfl) ?_
  refine lv_iload_n hx hb dX2_next_6 rfl (lv_at hl 2 rfl) ?_
  refine rv_V (As := [.int (nI lt)]) (rest := []) ⟨hx, hb, hml, hown, hts⟩ (c_X2_needLatch l D cI cJ tp h hn ow fi ma ro ha oa na sa he ob nb sb ic lc stp ap cnt len fo ff fk fr oA cA rA tA gA nA sA oB cB rB tB gB nB sB lt hlt (by omega)) (cwV 1 hts gX2_next_X2_needLatch rfl rfl rfl (by decide +kernel) ⟨Nat.le_of_ble_eq_true rfl, Nat.le_of_ble_eq_true rfl⟩) (re_pv (ci := 2) (q0 := 0) hK hP hE rfl rfl) rfl hl.1 rfl (Nat.le_of_ble_eq_true rfl) dX2_next_7 ⟨Nat.zero_le _, Nat.zero_le _⟩ ?_
  refine lv_aload_n hx hb dX2_next_10 rfl (lv_at hl 0 rfl) ?_
  refine lv_iload_n hx hb dX2_next_11 rfl (lv_at hl 3 rfl) ?_
  exact th_V (As := [.int x]) (rest := []) ⟨hx, hb, hml, hown, hts⟩ (t_X2_needLiteral l D cI cJ tp h hn ow fi ma ro ha oa na sa he ob nb sb ic lc stp ap cnt len fo ff fk fr oA cA rA tA gA nA sA oB cB rB tB gB nB sB hl9 x hx9) (cwV 1 hts gX2_next_X2_needLiteral rfl rfl rfl (by decide +kernel) ⟨Nat.le_of_ble_eq_true rfl, Nat.le_of_ble_eq_true rfl⟩) (re_pv (ci := 2) (q0 := 0) hK hP hE rfl rfl) rfl hl.1 rfl (Nat.le_of_ble_eq_true rfl) dX2_next_12 ⟨Nat.le_of_ble_eq_true rfl, Nat.le_of_ble_eq_true rfl⟩ hno hlocks
set_option maxHeartbeats 4000000 in
set_option maxRecDepth 100000 in
/-- next: of the other side -/
theorem t_X2_next4 (hl9 : l.stackTraces = false) (sd : Int32) (lt lit : Nat) (hs : sd = 0 ∨ sd = 1) (hlt : lt < lc) (hlc : lc ≤ 4) (h1 : lit < 2 * cnt) (hc : cnt ≤ 400) (ho : ¬ fo (lit / 2) = -1 ∧ ¬ fo (lit / 2) = sd) : TH l yX2_next wsX2_next { frames := 7, cells := 1, slots := 6, locals := 104 } (re_P D [(cI, .int), (cJ, .long)] (xW h hn ow fi ma ro ha oa na sa he ob nb sb cI cJ ic lc stp ap cnt len fo ff fk fr oA cA rA tA gA nA sA oB cB rB tB gB nB sB) tp [.ref h, .int sd, .int (nI lt), .int (nI lit)]) "java/lang/IllegalArgumentException" := by
  refine vx_ofW (cc := cX2_next) (maxL := 6) (ret := (some .int)) (by decide) rfl ?_
  intro p e s m args below meth c s₁ B hml hno hv
  obtain ⟨rfl, ⟨hP, hK⟩, hE⟩ := hv
  have hx := B.exec
  have hb := B.bytes
  have hr := B.returns
  have hts := atoms_spec (ws := wsX2_next) B.pre
  have hown : s.vm.findClass RX2 = some m.cls := findClass_of_methodNamed B.named
  have hlocks := B.notSynchronized
  have hl := lv_entry ([.ref h, .int sd, .int (nI lt), .int (nI lit)]) (n := 6) (Nat.le_of_ble_eq_true rfl)
  rw [lg_entry_eq]
  generalize (lg_sl ([.ref h, .int sd, .int (nI lt), .int (nI lit)]) ++ List.replicate (6 - (lg_sl ([.ref h, .int sd, .int (nI lt), .int (nI lit)])).length) Slot.unset).toArray = ls at hl ⊢
  have hl : lv_has ls 6 [(0, .ref h), (1, .int sd), (2, .int (nI lt)), (3, .int (nI lit))] := hl
  have hP : va_P D vwCl [(h, .inr (2, [.ref hn, .ref ha, .ref he, .int (nI ic), .int (nI lc), .int (nI stp), .int ap])), (hn, .inr (1, [.int (nI cnt), .ref ow, .ref fi, .ref ma, .ref ro])), (ow, .inl (cI, 400, .inl fo)), (fi, .inl (cI, 400, .inl ff)), (ma, .inl (cJ, 400, .inr (.inl fk))), (ro, .inl (cJ, len, .inr (.inl fr))), (ha, .inr (0, [.ref oa, .ref na, .ref sa, .int (nI oA), .int (nI cA), .int (nI rA), .int (nI tA)])), (oa, .inl (cI, 16, .inl (fun j => nI (gA j)))), (na, .inl (cI, 4, .inl (fun j => nI (nA j)))), (sa, .inl (cI, 16, .inl sA)), (he, .inr (0, [.ref ob, .ref nb, .ref sb, .int (nI oB), .int (nI cB), .int (nI rB), .int (nI tB)])), (ob, .inl (cI, 16, .inl (fun j => nI (gB j)))), (nb, .inl (cI, 4, .inl (fun j => nI (nB j)))), (sb, .inl (cI, 16, .inl sB))] s.heap := hP
  have hin0 : ∀ w ∈ wsX00, w ∈ wsX2_next := by decide +kernel
  have kf92 := hts (.fieldLink RX2 92 "SweepEqual$Design" "nexts" "[I") (by decide +kernel)
  refine lv_aload_n hx hb dX2_next_0 rfl (lv_at hl 0 rfl) ?_
  refine lv_iload_n hx hb dX2_next_1 rfl (lv_at hl 1 rfl) ?_
  refine rv_V (As := [.int sd]) (rest := []) ⟨hx, hb, hml, hown, hts⟩ (c_X2_needSide l D cI cJ tp h hn ow fi ma ro ha oa na sa he ob nb sb ic lc stp ap cnt len fo ff fk fr oA cA rA tA gA nA sA oB cB rB tB gB nB sB sd hs) (cwV 1 hts gX2_next_X2_needSide rfl rfl rfl (by decide +kernel) ⟨Nat.le_of_ble_eq_true rfl, Nat.le_of_ble_eq_true rfl⟩) (re_pv (ci := 2) (q0 := 0) hK hP hE rfl rfl) rfl hl.1 rfl (Nat.le_of_ble_eq_true rfl) dX2_next_2 ⟨Nat.zero_le _, Nat.zero_le _⟩ ?_
  refine lv_aload_n hx hb dX2_next_5 rfl (lv_at hl 0 rfl) ?_
  refine lv_iload_n hx hb dX2_next_6 rfl (lv_at hl 2 rfl) ?_
  refine rv_V (As := [.int (nI lt)]) (rest := []) ⟨hx, hb, hml, hown, hts⟩ (c_X2_needLatch l D cI cJ tp h hn ow fi ma ro ha oa na sa he ob nb sb ic lc stp ap cnt len fo ff fk fr oA cA rA tA gA nA sA oB cB rB tB gB nB sB lt hlt (by omega)) (cwV 1 hts gX2_next_X2_needLatch rfl rfl rfl (by decide +kernel) ⟨Nat.le_of_ble_eq_true rfl, Nat.le_of_ble_eq_true rfl⟩) (re_pv (ci := 2) (q0 := 0) hK hP hE rfl rfl) rfl hl.1 rfl (Nat.le_of_ble_eq_true rfl) dX2_next_7 ⟨Nat.zero_le _, Nat.zero_le _⟩ ?_
  refine lv_aload_n hx hb dX2_next_10 rfl (lv_at hl 0 rfl) ?_
  refine lv_iload_n hx hb dX2_next_11 rfl (lv_at hl 3 rfl) ?_
  refine rv_V (As := [.int (nI lit)]) (rest := []) ⟨hx, hb, hml, hown, hts⟩ (c_X2_needLiteral l D cI cJ tp h hn ow fi ma ro ha oa na sa he ob nb sb ic lc stp ap cnt len fo ff fk fr oA cA rA tA gA nA sA oB cB rB tB gB nB sB lit h1 (by omega)) (cwV 1 hts gX2_next_X2_needLiteral rfl rfl rfl (by decide +kernel) ⟨Nat.le_of_ble_eq_true rfl, Nat.le_of_ble_eq_true rfl⟩) (re_pv (ci := 2) (q0 := 0) hK hP hE rfl rfl) rfl hl.1 rfl (Nat.le_of_ble_eq_true rfl) dX2_next_12 ⟨Nat.zero_le _, Nat.zero_le _⟩ ?_
  refine lv_aload_n hx hb dX2_next_15 rfl (lv_at hl 0 rfl) ?_
  refine lv_iload_n hx hb dX2_next_16 rfl (lv_at hl 1 rfl) ?_
  refine lv_iload_n hx hb dX2_next_17 rfl (lv_at hl 3 rfl) ?_
  exact th_V (As := [.int sd, .int (nI lit)]) (rest := []) ⟨hx, hb, hml, hown, hts⟩ (t_X2_needOwn l D cI cJ tp h hn ow fi ma ro ha oa na sa he ob nb sb ic lc stp ap cnt len fo ff fk fr oA cA rA tA gA nA sA oB cB rB tB gB nB sB hl9 sd lit ho (by omega)) (cwV 2 hts gX2_next_X2_needOwn rfl rfl rfl (by decide +kernel) ⟨Nat.le_of_ble_eq_true rfl, Nat.le_of_ble_eq_true rfl⟩) (re_pv (ci := 2) (q0 := 0) hK hP hE rfl rfl) rfl hl.1 rfl (Nat.le_of_ble_eq_true rfl) dX2_next_18 ⟨Nat.le_of_ble_eq_true rfl, Nat.le_of_ble_eq_true rfl⟩ hno hlocks
end XT
