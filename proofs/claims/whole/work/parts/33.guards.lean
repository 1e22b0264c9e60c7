/-! SweepEqual: the guards. -/
set_option maxRecDepth 100000 in
theorem inX_X2_needLatch_io : ∀ w ∈ (vx_atS RX2 124 "java/lang/IndexOutOfBoundsException" xN).filter goodWord, w ∈ wsX2_needLatch := by decide +kernel
set_option maxRecDepth 100000 in
theorem inX_X2_needLiteral_io : ∀ w ∈ (vx_atS RX2 124 "java/lang/IndexOutOfBoundsException" xN).filter goodWord, w ∈ wsX2_needLiteral := by decide +kernel
set_option maxRecDepth 100000 in
theorem inX_X2_needOwn_ia : ∀ w ∈ (vx_atS RX2 191 "java/lang/IllegalArgumentException" xN).filter goodWord, w ∈ wsX2_needOwn := by decide +kernel
set_option maxRecDepth 100000 in
theorem inX_X2_needRoomForNode_is : ∀ w ∈ (vx_atS RX2 37 "java/lang/IllegalStateException" xN).filter goodWord, w ∈ wsX2_needRoomForNode := by decide +kernel
set_option maxRecDepth 100000 in
theorem inX_X2_needSide_io : ∀ w ∈ (vx_atS RX2 124 "java/lang/IndexOutOfBoundsException" xN).filter goodWord, w ∈ wsX2_needSide := by decide +kernel
set_option maxRecDepth 100000 in
theorem inX_X2_needStart_ia : ∀ w ∈ (vx_atS RX2 191 "java/lang/IllegalArgumentException" xN).filter goodWord, w ∈ wsX2_needStart := by decide +kernel
section XG
variable (l : Launch) (D : va_G) (cI cJ : ClassId) (tp : Nat) (h hn ow fi ma ro ha oa na sa he ob nb sb : Nat) (ic lc stp : Nat) (ap : Int32) (cnt len : Nat) (fo ff : Nat → Int32) (fk fr : Nat → Int64) (oA cA rA tA : Nat) (gA nA : Nat → Nat) (sA : Nat → Int32) (oB cB rB tB : Nat) (gB nB : Nat → Nat) (sB : Nat → Int32)
set_option maxHeartbeats 4000000 in
set_option maxRecDepth 100000 in
/-- 0 or 1: goes on -/
theorem c_X2_needSide (sd : Int32) (h1 : sd = 0 ∨ sd = 1) : Met l yX2_needSide wsX2_needSide { frames := 0, cells := 0, slots := 0, locals := 0 } (re_P D [(cI, .int), (cJ, .long)] (xW h hn ow fi ma ro ha oa na sa he ob nb sb cI cJ ic lc stp ap cnt len fo ff fk fr oA cA rA tA gA nA sA oB cB rB tB gB nB sB) tp [.ref h, .int sd]) rv_Q 0 0 (fun _ => False) := by
  refine Met.ofW (cc := cX2_needSide) (maxL := 2) (ret := none) (by decide) rfl ?_
  intro p e s m args below meth c s₁ B hml hv
  obtain ⟨rfl, ⟨hP, hK⟩, hE⟩ := hv
  have hx := B.exec
  have hb := B.bytes
  have hr := B.returns
  have hts := atoms_spec (ws := wsX2_needSide) B.pre
  have hown : s.vm.findClass RX2 = some m.cls := findClass_of_methodNamed B.named
  have hlocks := B.notSynchronized
  have hl := lv_entry ([.ref h, .int sd]) (n := 2) (Nat.le_of_ble_eq_true rfl)
  rw [lg_entry_eq]
  generalize (lg_sl ([.ref h, .int sd]) ++ List.replicate (2 - (lg_sl ([.ref h, .int sd])).length) Slot.unset).toArray = ls at hl ⊢
  have hl : lv_has ls 2 [(0, .ref h), (1, .int sd)] := hl
  have hP : va_P D vwCl [(h, .inr (2, [.ref hn, .ref ha, .ref he, .int (nI ic), .int (nI lc), .int (nI stp), .int ap])), (hn, .inr (1, [.int (nI cnt), .ref ow, .ref fi, .ref ma, .ref ro])), (ow, .inl (cI, 400, .inl fo)), (fi, .inl (cI, 400, .inl ff)), (ma, .inl (cJ, 400, .inr (.inl fk))), (ro, .inl (cJ, len, .inr (.inl fr))), (ha, .inr (0, [.ref oa, .ref na, .ref sa, .int (nI oA), .int (nI cA), .int (nI rA), .int (nI tA)])), (oa, .inl (cI, 16, .inl (fun j => nI (gA j)))), (na, .inl (cI, 4, .inl (fun j => nI (nA j)))), (sa, .inl (cI, 16, .inl sA)), (he, .inr (0, [.ref ob, .ref nb, .ref sb, .int (nI oB), .int (nI cB), .int (nI rB), .int (nI tB)])), (ob, .inl (cI, 16, .inl (fun j => nI (gB j)))), (nb, .inl (cI, 4, .inl (fun j => nI (nB j)))), (sb, .inl (cI, 16, .inl sB))] s.heap := hP
  refine lv_iload_n hx hb dX2_needSide_0 rfl (lv_at hl 1 rfl) ?_
  refine lv_if_eq (tgt := 19) hx hb dX2_needSide_1 (by decide) (fun c1 => ?_) (fun c1 => ?_)
  · exact rv_r hx hb hr hlocks dX2_needSide_19
  · refine lv_iload_n hx hb dX2_needSide_4 rfl (lv_at hl 1 rfl) ?_
    refine lv_iconst (v := nI 1) hx hb dX2_needSide_5 (by decide) ?_
    refine lv_icmp_eq (tgt := 19) hx hb dX2_needSide_6 (by decide) (fun c2 => ?_) (fun c2 => ?_)
    · exact rv_r hx hb hr hlocks dX2_needSide_19
    · exact (h1.elim c1 c2).elim
set_option maxHeartbeats 4000000 in
set_option maxRecDepth 100000 in
/-- neither 0 nor 1: throws -/
theorem t_X2_needSide (hl9 : l.stackTraces = false) (sd : Int32) (h1 : ¬ (sd = 0 ∨ sd = 1)) : TH l yX2_needSide wsX2_needSide { frames := 6, cells := 1, slots := 6, locals := 82 } (re_P D [(cI, .int), (cJ, .long)] (xW h hn ow fi ma ro ha oa na sa he ob nb sb cI cJ ic lc stp ap cnt len fo ff fk fr oA cA rA tA gA nA sA oB cB rB tB gB nB sB) tp [.ref h, .int sd]) "java/lang/IndexOutOfBoundsException" := by
  refine vx_ofW (cc := cX2_needSide) (maxL := 2) (ret := none) (by decide) rfl ?_
  intro p e s m args below meth c s₁ B hml hno hv
  obtain ⟨rfl, ⟨hP, hK⟩, hE⟩ := hv
  have hx := B.exec
  have hb := B.bytes
  have hr := B.returns
  have hts := atoms_spec (ws := wsX2_needSide) B.pre
  have hown : s.vm.findClass RX2 = some m.cls := findClass_of_methodNamed B.named
  have hlocks := B.notSynchronized
  have hl := lv_entry ([.ref h, .int sd]) (n := 2) (Nat.le_of_ble_eq_true rfl)
  rw [lg_entry_eq]
  generalize (lg_sl ([.ref h, .int sd]) ++ List.replicate (2 - (lg_sl ([.ref h, .int sd])).length) Slot.unset).toArray = ls at hl ⊢
  have hl : lv_has ls 2 [(0, .ref h), (1, .int sd)] := hl
  have hP : va_P D vwCl [(h, .inr (2, [.ref hn, .ref ha, .ref he, .int (nI ic), .int (nI lc), .int (nI stp), .int ap])), (hn, .inr (1, [.int (nI cnt), .ref ow, .ref fi, .ref ma, .ref ro])), (ow, .inl (cI, 400, .inl fo)), (fi, .inl (cI, 400, .inl ff)), (ma, .inl (cJ, 400, .inr (.inl fk))), (ro, .inl (cJ, len, .inr (.inl fr))), (ha, .inr (0, [.ref oa, .ref na, .ref sa, .int (nI oA), .int (nI cA), .int (nI rA), .int (nI tA)])), (oa, .inl (cI, 16, .inl (fun j => nI (gA j)))), (na, .inl (cI, 4, .inl (fun j => nI (nA j)))), (sa, .inl (cI, 16, .inl sA)), (he, .inr (0, [.ref ob, .ref nb, .ref sb, .int (nI oB), .int (nI cB), .int (nI rB), .int (nI tB)])), (ob, .inl (cI, 16, .inl (fun j => nI (gB j)))), (nb, .inl (cI, 4, .inl (fun j => nI (nB j)))), (sb, .inl (cI, 16, .inl sB))] s.heap := hP
  have hgw_io : ∀ w ∈ (vx_atS RX2 124 "java/lang/IndexOutOfBoundsException" xN).filter goodWord, w.before ([.ref h, .int sd] : List Value).toArray s = true := fun w hw => hts w (inX_X2_needSide_io w hw)
  refine lv_iload_n hx hb dX2_needSide_0 rfl (lv_at hl 1 rfl) ?_
  refine lv_if_eq (tgt := 19) hx hb dX2_needSide_1 (by decide) (fun c1 => ?_) (fun c1 => ?_)
  · exact absurd (Or.inl c1) h1
  · refine lv_iload_n hx hb dX2_needSide_4 rfl (lv_at hl 1 rfl) ?_
    refine lv_iconst (v := nI 1) hx hb dX2_needSide_5 (by decide) ?_
    refine lv_icmp_eq (tgt := 19) hx hb dX2_needSide_6 (by decide) (fun c2 => ?_) (fun c2 => ?_)
    · exact absurd (Or.inr c2) h1
    · exact th_S (cls := "java/lang/IndexOutOfBoundsException") (text := "no such side") hx hb hl9 hown (by decide +kernel) (hts (.classLink RX2 120 "java/lang/IndexOutOfBoundsException") (by decide +kernel)) (hts (.initialized "java/lang/IndexOutOfBoundsException") (by decide +kernel)) hgw_io hng_io hgd_io hE (by decide) (by decide) (by rw [hml]; exact hl.1) dX2_needSide_9 dX2_needSide_12 dX2_needSide_13 dX2_needSide_15 dX2_needSide_18 hno (Nat.le_of_ble_eq_true rfl) (Nat.le_of_ble_eq_true rfl) (Nat.le_of_ble_eq_true rfl) (Nat.le_of_ble_eq_true rfl) hlocks
set_option maxHeartbeats 4000000 in
set_option maxRecDepth 100000 in
/-- 0 or 1: goes on -/
theorem c_X2_needStart (sd : Int32) (h1 : sd = 0 ∨ sd = 1) : Met l yX2_needStart wsX2_needStart { frames := 0, cells := 0, slots := 0, locals := 0 } (re_P D [(cI, .int), (cJ, .long)] (xW h hn ow fi ma ro ha oa na sa he ob nb sb cI cJ ic lc stp ap cnt len fo ff fk fr oA cA rA tA gA nA sA oB cB rB tB gB nB sB) tp [.ref h, .int sd]) rv_Q 0 0 (fun _ => False) := by
  refine Met.ofW (cc := cX2_needStart) (maxL := 2) (ret := none) (by decide) rfl ?_
  intro p e s m args below meth c s₁ B hml hv
  obtain ⟨rfl, ⟨hP, hK⟩, hE⟩ := hv
  have hx := B.exec
  have hb := B.bytes
  have hr := B.returns
  have hts := atoms_spec (ws := wsX2_needStart) B.pre
  have hown : s.vm.findClass RX2 = some m.cls := findClass_of_methodNamed B.named
  have hlocks := B.notSynchronized
  have hl := lv_entry ([.ref h, .int sd]) (n := 2) (Nat.le_of_ble_eq_true rfl)
  rw [lg_entry_eq]
  generalize (lg_sl ([.ref h, .int sd]) ++ List.replicate (2 - (lg_sl ([.ref h, .int sd])).length) Slot.unset).toArray = ls at hl ⊢
  have hl : lv_has ls 2 [(0, .ref h), (1, .int sd)] := hl
  have hP : va_P D vwCl [(h, .inr (2, [.ref hn, .ref ha, .ref he, .int (nI ic), .int (nI lc), .int (nI stp), .int ap])), (hn, .inr (1, [.int (nI cnt), .ref ow, .ref fi, .ref ma, .ref ro])), (ow, .inl (cI, 400, .inl fo)), (fi, .inl (cI, 400, .inl ff)), (ma, .inl (cJ, 400, .inr (.inl fk))), (ro, .inl (cJ, len, .inr (.inl fr))), (ha, .inr (0, [.ref oa, .ref na, .ref sa, .int (nI oA), .int (nI cA), .int (nI rA), .int (nI tA)])), (oa, .inl (cI, 16, .inl (fun j => nI (gA j)))), (na, .inl (cI, 4, .inl (fun j => nI (nA j)))), (sa, .inl (cI, 16, .inl sA)), (he, .inr (0, [.ref ob, .ref nb, .ref sb, .int (nI oB), .int (nI cB), .int (nI rB), .int (nI tB)])), (ob, .inl (cI, 16, .inl (fun j => nI (gB j)))), (nb, .inl (cI, 4, .inl (fun j => nI (nB j)))), (sb, .inl (cI, 16, .inl sB))] s.heap := hP
  refine lv_iload_n hx hb dX2_needStart_0 rfl (lv_at hl 1 rfl) ?_
  refine lv_if_eq (tgt := 19) hx hb dX2_needStart_1 (by decide) (fun c1 => ?_) (fun c1 => ?_)
  · exact rv_r hx hb hr hlocks dX2_needStart_19
  · refine lv_iload_n hx hb dX2_needStart_4 rfl (lv_at hl 1 rfl) ?_
    refine lv_iconst (v := nI 1) hx hb dX2_needStart_5 (by decide) ?_
    refine lv_icmp_eq (tgt := 19) hx hb dX2_needStart_6 (by decide) (fun c2 => ?_) (fun c2 => ?_)
    · exact rv_r hx hb hr hlocks dX2_needStart_19
    · exact (h1.elim c1 c2).elim
set_option maxHeartbeats 4000000 in
set_option maxRecDepth 100000 in
/-- neither 0 nor 1: throws -/
theorem t_X2_needStart (hl9 : l.stackTraces = false) (sd : Int32) (h1 : ¬ (sd = 0 ∨ sd = 1)) : TH l yX2_needStart wsX2_needStart { frames := 6, cells := 1, slots := 6, locals := 82 } (re_P D [(cI, .int), (cJ, .long)] (xW h hn ow fi ma ro ha oa na sa he ob nb sb cI cJ ic lc stp ap cnt len fo ff fk fr oA cA rA tA gA nA sA oB cB rB tB gB nB sB) tp [.ref h, .int sd]) "java/lang/IllegalArgumentException" := by
  refine vx_ofW (cc := cX2_needStart) (maxL := 2) (ret := none) (by decide) rfl ?_
  intro p e s m args below meth c s₁ B hml hno hv
  obtain ⟨rfl, ⟨hP, hK⟩, hE⟩ := hv
  have hx := B.exec
  have hb := B.bytes
  have hr := B.returns
  have hts := atoms_spec (ws := wsX2_needStart) B.pre
  have hown : s.vm.findClass RX2 = some m.cls := findClass_of_methodNamed B.named
  have hlocks := B.notSynchronized
  have hl := lv_entry ([.ref h, .int sd]) (n := 2) (Nat.le_of_ble_eq_true rfl)
  rw [lg_entry_eq]
  generalize (lg_sl ([.ref h, .int sd]) ++ List.replicate (2 - (lg_sl ([.ref h, .int sd])).length) Slot.unset).toArray = ls at hl ⊢
  have hl : lv_has ls 2 [(0, .ref h), (1, .int sd)] := hl
  have hP : va_P D vwCl [(h, .inr (2, [.ref hn, .ref ha, .ref he, .int (nI ic), .int (nI lc), .int (nI stp), .int ap])), (hn, .inr (1, [.int (nI cnt), .ref ow, .ref fi, .ref ma, .ref ro])), (ow, .inl (cI, 400, .inl fo)), (fi, .inl (cI, 400, .inl ff)), (ma, .inl (cJ, 400, .inr (.inl fk))), (ro, .inl (cJ, len, .inr (.inl fr))), (ha, .inr (0, [.ref oa, .ref na, .ref sa, .int (nI oA), .int (nI cA), .int (nI rA), .int (nI tA)])), (oa, .inl (cI, 16, .inl (fun j => nI (gA j)))), (na, .inl (cI, 4, .inl (fun j => nI (nA j)))), (sa, .inl (cI, 16, .inl sA)), (he, .inr (0, [.ref ob, .ref nb, .ref sb, .int (nI oB), .int (nI cB), .int (nI rB), .int (nI tB)])), (ob, .inl (cI, 16, .inl (fun j => nI (gB j)))), (nb, .inl (cI, 4, .inl (fun j => nI (nB j)))), (sb, .inl (cI, 16, .inl sB))] s.heap := hP
  have hgw_ia : ∀ w ∈ (vx_atS RX2 191 "java/lang/IllegalArgumentException" xN).filter goodWord, w.before ([.ref h, .int sd] : List Value).toArray s = true := fun w hw => hts w (inX_X2_needStart_ia w hw)
  refine lv_iload_n hx hb dX2_needStart_0 rfl (lv_at hl 1 rfl) ?_
  refine lv_if_eq (tgt := 19) hx hb dX2_needStart_1 (by decide) (fun c1 => ?_) (fun c1 => ?_)
  · exact absurd (Or.inl c1) h1
  · refine lv_iload_n hx hb dX2_needStart_4 rfl (lv_at hl 1 rfl) ?_
    refine lv_iconst (v := nI 1) hx hb dX2_needStart_5 (by decide) ?_
    refine lv_icmp_eq (tgt := 19) hx hb dX2_needStart_6 (by decide) (fun c2 => ?_) (fun c2 => ?_)
    · exact absurd (Or.inr c2) h1
    · exact th_S (cls := "java/lang/IllegalArgumentException") (text := "a start is neither 0 nor 1") hx hb hl9 hown (by decide +kernel) (hts (.classLink RX2 187 "java/lang/IllegalArgumentException") (by decide +kernel)) (hts (.initialized "java/lang/IllegalArgumentException") (by decide +kernel)) hgw_ia hng_ia hgd_ia hE (by decide) (by decide) (by rw [hml]; exact hl.1) dX2_needStart_9 dX2_needStart_12 dX2_needStart_13 dX2_needStart_15 dX2_needStart_18 hno (Nat.le_of_ble_eq_true rfl) (Nat.le_of_ble_eq_true rfl) (Nat.le_of_ble_eq_true rfl) (Nat.le_of_ble_eq_true rfl) hlocks
set_option maxHeartbeats 4000000 in
set_option maxRecDepth 100000 in
/-- there is such a one: goes on -/
theorem c_X2_needLiteral (lit : Nat) (h1 : lit < 2 * cnt) (h2 : 2 * cnt ≤ 800) : Met l yX2_needLiteral wsX2_needLiteral { frames := 0, cells := 0, slots := 0, locals := 0 } (re_P D [(cI, .int), (cJ, .long)] (xW h hn ow fi ma ro ha oa na sa he ob nb sb cI cJ ic lc stp ap cnt len fo ff fk fr oA cA rA tA gA nA sA oB cB rB tB gB nB sB) tp [.ref h, .int (nI lit)]) rv_Q 0 0 (fun _ => False) := by
  refine Met.ofW (cc := cX2_needLiteral) (maxL := 2) (ret := none) (by decide) rfl ?_
  intro p e s m args below meth c s₁ B hml hv
  obtain ⟨rfl, ⟨hP, hK⟩, hE⟩ := hv
  have hx := B.exec
  have hb := B.bytes
  have hr := B.returns
  have hts := atoms_spec (ws := wsX2_needLiteral) B.pre
  have hown : s.vm.findClass RX2 = some m.cls := findClass_of_methodNamed B.named
  have hlocks := B.notSynchronized
  have hl := lv_entry ([.ref h, .int (nI lit)]) (n := 2) (Nat.le_of_ble_eq_true rfl)
  rw [lg_entry_eq]
  generalize (lg_sl ([.ref h, .int (nI lit)]) ++ List.replicate (2 - (lg_sl ([.ref h, .int (nI lit)])).length) Slot.unset).toArray = ls at hl ⊢
  have hl : lv_has ls 2 [(0, .ref h), (1, .int (nI lit))] := hl
  have hP : va_P D vwCl [(h, .inr (2, [.ref hn, .ref ha, .ref he, .int (nI ic), .int (nI lc), .int (nI stp), .int ap])), (hn, .inr (1, [.int (nI cnt), .ref ow, .ref fi, .ref ma, .ref ro])), (ow, .inl (cI, 400, .inl fo)), (fi, .inl (cI, 400, .inl ff)), (ma, .inl (cJ, 400, .inr (.inl fk))), (ro, .inl (cJ, len, .inr (.inl fr))), (ha, .inr (0, [.ref oa, .ref na, .ref sa, .int (nI oA), .int (nI cA), .int (nI rA), .int (nI tA)])), (oa, .inl (cI, 16, .inl (fun j => nI (gA j)))), (na, .inl (cI, 4, .inl (fun j => nI (nA j)))), (sa, .inl (cI, 16, .inl sA)), (he, .inr (0, [.ref ob, .ref nb, .ref sb, .int (nI oB), .int (nI cB), .int (nI rB), .int (nI tB)])), (ob, .inl (cI, 16, .inl (fun j => nI (gB j)))), (nb, .inl (cI, 4, .inl (fun j => nI (nB j)))), (sb, .inl (cI, 16, .inl sB))] s.heap := hP
  have hin1 : ∀ w ∈ wsX10, w ∈ wsX2_needLiteral := by decide +kernel
  have hin2 : ∀ w ∈ wsX20, w ∈ wsX2_needLiteral := by decide +kernel
  have kf12 := hts (.fieldLink RX2 12 "SweepEqual" "nodes" "LSweepEqual$Nodes;") (by decide +kernel)
  have kf169 := hts (.fieldLink RX2 169 "SweepEqual$Nodes" "count" "I") (by decide +kernel)
  refine lv_iload_n hx hb dX2_needLiteral_0 rfl (lv_at hl 1 rfl) ?_
  refine lv_if_lt (tgt := 17) hx hb dX2_needLiteral_1 (by decide) (fun c1 => ?_) (fun c1 => ?_)
  · exact absurd c1 (nI_pos (by omega))
  · refine lv_iload_n hx hb dX2_needLiteral_4 rfl (lv_at hl 1 rfl) ?_
    refine lv_iconst (v := nI 2) hx hb dX2_needLiteral_5 (by decide) ?_
    refine lv_aload_n hx hb dX2_needLiteral_6 rfl (lv_at hl 0 rfl) ?_
    refine va_get (D := D) (ci := 2) (v := .ref hn) (C := RX2) (T := TX2) (N := 7) hx hb hts hin2 hown hK hP 0 rfl rfl 0 (by decide) kf12 (fun _ h9 => h9) rfl dX2_needLiteral_7 ?_
    refine va_get (D := D) (ci := 1) (v := .int (nI cnt)) (C := RX1) (T := TX1) (N := 5) hx hb hts hin1 hown hK hP 1 rfl rfl 0 (by decide) kf169 (fun _ h9 => h9) rfl dX2_needLiteral_10 ?_
    refine lv_imul hx hb dX2_needLiteral_13 ?_
    refine tp_i (show (nI 2) * (nI cnt) = nI (2 * cnt) from pk_mul _ _) ?_
    refine lv_icmp_lt (tgt := 27) hx hb dX2_needLiteral_14 (by decide) (fun c2 => ?_) (fun c2 => ?_)
    · have c2 : lit < 2 * cnt := (nI_ltI (by omega) (by omega)).mp c2
      exact rv_r hx hb hr hlocks dX2_needLiteral_27
    · have c2 : ¬ (lit < 2 * cnt) := fun h => c2 ((nI_ltI (by omega) (by omega)).mpr h)
      exact absurd h1 c2
set_option maxHeartbeats 4000000 in
set_option maxRecDepth 100000 in
/-- there is no such one: throws -/
theorem t_X2_needLiteral (hl9 : l.stackTraces = false) (x : Int32) (h1 : x < 0 ∨ nI (2 * cnt) ≤ x) : TH l yX2_needLiteral wsX2_needLiteral { frames := 6, cells := 1, slots := 6, locals := 82 } (re_P D [(cI, .int), (cJ, .long)] (xW h hn ow fi ma ro ha oa na sa he ob nb sb cI cJ ic lc stp ap cnt len fo ff fk fr oA cA rA tA gA nA sA oB cB rB tB gB nB sB) tp [.ref h, .int x]) "java/lang/IndexOutOfBoundsException" := by
  refine vx_ofW (cc := cX2_needLiteral) (maxL := 2) (ret := none) (by decide) rfl ?_
  intro p e s m args below meth c s₁ B hml hno hv
  obtain ⟨rfl, ⟨hP, hK⟩, hE⟩ := hv
  have hx := B.exec
  have hb := B.bytes
  have hr := B.returns
  have hts := atoms_spec (ws := wsX2_needLiteral) B.pre
  have hown : s.vm.findClass RX2 = some m.cls := findClass_of_methodNamed B.named
  have hlocks := B.notSynchronized
  have hl := lv_entry ([.ref h, .int x]) (n := 2) (Nat.le_of_ble_eq_true rfl)
  rw [lg_entry_eq]
  generalize (lg_sl ([.ref h, .int x]) ++ List.replicate (2 - (lg_sl ([.ref h, .int x])).length) Slot.unset).toArray = ls at hl ⊢
  have hl : lv_has ls 2 [(0, .ref h), (1, .int x)] := hl
  have hP : va_P D vwCl [(h, .inr (2, [.ref hn, .ref ha, .ref he, .int (nI ic), .int (nI lc), .int (nI stp), .int ap])), (hn, .inr (1, [.int (nI cnt), .ref ow, .ref fi, .ref ma, .ref ro])), (ow, .inl (cI, 400, .inl fo)), (fi, .inl (cI, 400, .inl ff)), (ma, .inl (cJ, 400, .inr (.inl fk))), (ro, .inl (cJ, len, .inr (.inl fr))), (ha, .inr (0, [.ref oa, .ref na, .ref sa, .int (nI oA), .int (nI cA), .int (nI rA), .int (nI tA)])), (oa, .inl (cI, 16, .inl (fun j => nI (gA j)))), (na, .inl (cI, 4, .inl (fun j => nI (nA j)))), (sa, .inl (cI, 16, .inl sA)), (he, .inr (0, [.ref ob, .ref nb, .ref sb, .int (nI oB), .int (nI cB), .int (nI rB), .int (nI tB)])), (ob, .inl (cI, 16, .inl (fun j => nI (gB j)))), (nb, .inl (cI, 4, .inl (fun j => nI (nB j)))), (sb, .inl (cI, 16, .inl sB))] s.heap := hP
  have hin1 : ∀ w ∈ wsX10, w ∈ wsX2_needLiteral := by decide +kernel
  have hin2 : ∀ w ∈ wsX20, w ∈ wsX2_needLiteral := by decide +kernel
  have kf12 := hts (.fieldLink RX2 12 "SweepEqual" "nodes" "LSweepEqual$Nodes;") (by decide +kernel)
  have kf169 := hts (.fieldLink RX2 169 "SweepEqual$Nodes" "count" "I") (by decide +kernel)
  have hgw_io : ∀ w ∈ (vx_atS RX2 124 "java/lang/IndexOutOfBoundsException" xN).filter goodWord, w.before ([.ref h, .int x] : List Value).toArray s = true := fun w hw => hts w (inX_X2_needLiteral_io w hw)
  refine lv_iload_n hx hb dX2_needLiteral_0 rfl (lv_at hl 1 rfl) ?_
  refine lv_if_lt (tgt := 17) hx hb dX2_needLiteral_1 (by decide) (fun c1 => ?_) (fun c1 => ?_)
  · exact th_S (cls := "java/lang/IndexOutOfBoundsException") (text := "no such literal") hx hb hl9 hown (by decide +kernel) (hts (.classLink RX2 120 "java/lang/IndexOutOfBoundsException") (by decide +kernel)) (hts (.initialized "java/lang/IndexOutOfBoundsException") (by decide +kernel)) hgw_io hng_io hgd_io hE (by decide) (by decide) (by rw [hml]; exact hl.1) dX2_needLiteral_17 dX2_needLiteral_20 dX2_needLiteral_21 dX2_needLiteral_23 dX2_needLiteral_26 hno (Nat.le_of_ble_eq_true rfl) (Nat.le_of_ble_eq_true rfl) (Nat.le_of_ble_eq_true rfl) (Nat.le_of_ble_eq_true rfl) hlocks
  · refine lv_iload_n hx hb dX2_needLiteral_4 rfl (lv_at hl 1 rfl) ?_
    refine lv_iconst (v := nI 2) hx hb dX2_needLiteral_5 (by decide) ?_
    refine lv_aload_n hx hb dX2_needLiteral_6 rfl (lv_at hl 0 rfl) ?_
    refine va_get (D := D) (ci := 2) (v := .ref hn) (C := RX2) (T := TX2) (N := 7) hx hb hts hin2 hown hK hP 0 rfl rfl 0 (by decide) kf12 (fun _ h9 => h9) rfl dX2_needLiteral_7 ?_
    refine va_get (D := D) (ci := 1) (v := .int (nI cnt)) (C := RX1) (T := TX1) (N := 5) hx hb hts hin1 hown hK hP 1 rfl rfl 0 (by decide) kf169 (fun _ h9 => h9) rfl dX2_needLiteral_10 ?_
    refine lv_imul hx hb dX2_needLiteral_13 ?_
    refine tp_i (show (nI 2) * (nI cnt) = nI (2 * cnt) from pk_mul _ _) ?_
    refine lv_icmp_lt (tgt := 27) hx hb dX2_needLiteral_14 (by decide) (fun c2 => ?_) (fun c2 => ?_)
    · exact absurd c2 (Int32.not_lt.mpr (h1.resolve_left c1))
    · exact th_S (cls := "java/lang/IndexOutOfBoundsException") (text := "no such literal") hx hb hl9 hown (by decide +kernel) (hts (.classLink RX2 120 "java/lang/IndexOutOfBoundsException") (by decide +kernel)) (hts (.initialized "java/lang/IndexOutOfBoundsException") (by decide +kernel)) hgw_io hng_io hgd_io hE (by decide) (by decide) (by rw [hml]; exact hl.1) dX2_needLiteral_17 dX2_needLiteral_20 dX2_needLiteral_21 dX2_needLiteral_23 dX2_needLiteral_26 hno (Nat.le_of_ble_eq_true rfl) (Nat.le_of_ble_eq_true rfl) (Nat.le_of_ble_eq_true rfl) (Nat.le_of_ble_eq_true rfl) hlocks
set_option maxHeartbeats 4000000 in
set_option maxRecDepth 100000 in
/-- there is such a one: goes on -/
theorem c_X2_needLatch (lt : Nat) (h1 : lt < lc) (h2 : lc ≤ 800) : Met l yX2_needLatch wsX2_needLatch { frames := 0, cells := 0, slots := 0, locals := 0 } (re_P D [(cI, .int), (cJ, .long)] (xW h hn ow fi ma ro ha oa na sa he ob nb sb cI cJ ic lc stp ap cnt len fo ff fk fr oA cA rA tA gA nA sA oB cB rB tB gB nB sB) tp [.ref h, .int (nI lt)]) rv_Q 0 0 (fun _ => False) := by
  refine Met.ofW (cc := cX2_needLatch) (maxL := 2) (ret := none) (by decide) rfl ?_
  intro p e s m args below meth c s₁ B hml hv
  obtain ⟨rfl, ⟨hP, hK⟩, hE⟩ := hv
  have hx := B.exec
  have hb := B.bytes
  have hr := B.returns
  have hts := atoms_spec (ws := wsX2_needLatch) B.pre
  have hown : s.vm.findClass RX2 = some m.cls := findClass_of_methodNamed B.named
  have hlocks := B.notSynchronized
  have hl := lv_entry ([.ref h, .int (nI lt)]) (n := 2) (Nat.le_of_ble_eq_true rfl)
  rw [lg_entry_eq]
  generalize (lg_sl ([.ref h, .int (nI lt)]) ++ List.replicate (2 - (lg_sl ([.ref h, .int (nI lt)])).length) Slot.unset).toArray = ls at hl ⊢
  have hl : lv_has ls 2 [(0, .ref h), (1, .int (nI lt))] := hl
  have hP : va_P D vwCl [(h, .inr (2, [.ref hn, .ref ha, .ref he, .int (nI ic), .int (nI lc), .int (nI stp), .int ap])), (hn, .inr (1, [.int (nI cnt), .ref ow, .ref fi, .ref ma, .ref ro])), (ow, .inl (cI, 400, .inl fo)), (fi, .inl (cI, 400, .inl ff)), (ma, .inl (cJ, 400, .inr (.inl fk))), (ro, .inl (cJ, len, .inr (.inl fr))), (ha, .inr (0, [.ref oa, .ref na, .ref sa, .int (nI oA), .int (nI cA), .int (nI rA), .int (nI tA)])), (oa, .inl (cI, 16, .inl (fun j => nI (gA j)))), (na, .inl (cI, 4, .inl (fun j => nI (nA j)))), (sa, .inl (cI, 16, .inl sA)), (he, .inr (0, [.ref ob, .ref nb, .ref sb, .int (nI oB), .int (nI cB), .int (nI rB), .int (nI tB)])), (ob, .inl (cI, 16, .inl (fun j => nI (gB j)))), (nb, .inl (cI, 4, .inl (fun j => nI (nB j)))), (sb, .inl (cI, 16, .inl sB))] s.heap := hP
  have hin2 : ∀ w ∈ wsX20, w ∈ wsX2_needLatch := by decide +kernel
  have kf47 := hts (.fieldLink RX2 47 "SweepEqual" "latchCount" "I") (by decide +kernel)
  refine lv_iload_n hx hb dX2_needLatch_0 rfl (lv_at hl 1 rfl) ?_
  refine lv_if_lt (tgt := 12) hx hb dX2_needLatch_1 (by decide) (fun c1 => ?_) (fun c1 => ?_)
  · exact absurd c1 (nI_pos (by omega))
  · refine lv_iload_n hx hb dX2_needLatch_4 rfl (lv_at hl 1 rfl) ?_
    refine lv_aload_n hx hb dX2_needLatch_5 rfl (lv_at hl 0 rfl) ?_
    refine va_get (D := D) (ci := 2) (v := .int (nI lc)) (C := RX2) (T := TX2) (N := 7) hx hb hts hin2 hown hK hP 0 rfl rfl 4 (by decide) kf47 (fun _ h9 => h9) rfl dX2_needLatch_6 ?_
    refine lv_icmp_lt (tgt := 22) hx hb dX2_needLatch_9 (by decide) (fun c2 => ?_) (fun c2 => ?_)
    · have c2 : lt < lc := (nI_ltI (by omega) (by omega)).mp c2
      exact rv_r hx hb hr hlocks dX2_needLatch_22
    · have c2 : ¬ (lt < lc) := fun h => c2 ((nI_ltI (by omega) (by omega)).mpr h)
      exact absurd h1 c2
set_option maxHeartbeats 4000000 in
set_option maxRecDepth 100000 in
/-- there is no such one: throws -/
theorem t_X2_needLatch (hl9 : l.stackTraces = false) (x : Int32) (h1 : x < 0 ∨ nI (lc) ≤ x) : TH l yX2_needLatch wsX2_needLatch { frames := 6, cells := 1, slots := 6, locals := 82 } (re_P D [(cI, .int), (cJ, .long)] (xW h hn ow fi ma ro ha oa na sa he ob nb sb cI cJ ic lc stp ap cnt len fo ff fk fr oA cA rA tA gA nA sA oB cB rB tB gB nB sB) tp [.ref h, .int x]) "java/lang/IndexOutOfBoundsException" := by
  refine vx_ofW (cc := cX2_needLatch) (maxL := 2) (ret := none) (by decide) rfl ?_
  intro p e s m args below meth c s₁ B hml hno hv
  obtain ⟨rfl, ⟨hP, hK⟩, hE⟩ := hv
  have hx := B.exec
  have hb := B.bytes
  have hr := B.returns
  have hts := atoms_spec (ws := wsX2_needLatch) B.pre
  have hown : s.vm.findClass RX2 = some m.cls := findClass_of_methodNamed B.named
  have hlocks := B.notSynchronized
  have hl := lv_entry ([.ref h, .int x]) (n := 2) (Nat.le_of_ble_eq_true rfl)
  rw [lg_entry_eq]
  generalize (lg_sl ([.ref h, .int x]) ++ List.replicate (2 - (lg_sl ([.ref h, .int x])).length) Slot.unset).toArray = ls at hl ⊢
  have hl : lv_has ls 2 [(0, .ref h), (1, .int x)] := hl
  have hP : va_P D vwCl [(h, .inr (2, [.ref hn, .ref ha, .ref he, .int (nI ic), .int (nI lc), .int (nI stp), .int ap])), (hn, .inr (1, [.int (nI cnt), .ref ow, .ref fi, .ref ma, .ref ro])), (ow, .inl (cI, 400, .inl fo)), (fi, .inl (cI, 400, .inl ff)), (ma, .inl (cJ, 400, .inr (.inl fk))), (ro, .inl (cJ, len, .inr (.inl fr))), (ha, .inr (0, [.ref oa, .ref na, .ref sa, .int (nI oA), .int (nI cA), .int (nI rA), .int (nI tA)])), (oa, .inl (cI, 16, .inl (fun j => nI (gA j)))), (na, .inl (cI, 4, .inl (fun j => nI (nA j)))), (sa, .inl (cI, 16, .inl sA)), (he, .inr (0, [.ref ob, .ref nb, .ref sb, .int (nI oB), .int (nI cB), .int (nI rB), .int (nI tB)])), (ob, .inl (cI, 16, .inl (fun j => nI (gB j)))), (nb, .inl (cI, 4, .inl (fun j => nI (nB j)))), (sb, .inl (cI, 16, .inl sB))] s.heap := hP
  have hin2 : ∀ w ∈ wsX20, w ∈ wsX2_needLatch := by decide +kernel
  have kf47 := hts (.fieldLink RX2 47 "SweepEqual" "latchCount" "I") (by decide +kernel)
  have hgw_io : ∀ w ∈ (vx_atS RX2 124 "java/lang/IndexOutOfBoundsException" xN).filter goodWord, w.before ([.ref h, .int x] : List Value).toArray s = true := fun w hw => hts w (inX_X2_needLatch_io w hw)
  refine lv_iload_n hx hb dX2_needLatch_0 rfl (lv_at hl 1 rfl) ?_
  refine lv_if_lt (tgt := 12) hx hb dX2_needLatch_1 (by decide) (fun c1 => ?_) (fun c1 => ?_)
  · exact th_S (cls := "java/lang/IndexOutOfBoundsException") (text := "no such latch") hx hb hl9 hown (by decide +kernel) (hts (.classLink RX2 120 "java/lang/IndexOutOfBoundsException") (by decide +kernel)) (hts (.initialized "java/lang/IndexOutOfBoundsException") (by decide +kernel)) hgw_io hng_io hgd_io hE (by decide) (by decide) (by rw [hml]; exact hl.1) dX2_needLatch_12 dX2_needLatch_15 dX2_needLatch_16 dX2_needLatch_18 dX2_needLatch_21 hno (Nat.le_of_ble_eq_true rfl) (Nat.le_of_ble_eq_true rfl) (Nat.le_of_ble_eq_true rfl) (Nat.le_of_ble_eq_true rfl) hlocks
  · refine lv_iload_n hx hb dX2_needLatch_4 rfl (lv_at hl 1 rfl) ?_
    refine lv_aload_n hx hb dX2_needLatch_5 rfl (lv_at hl 0 rfl) ?_
    refine va_get (D := D) (ci := 2) (v := .int (nI lc)) (C := RX2) (T := TX2) (N := 7) hx hb hts hin2 hown hK hP 0 rfl rfl 4 (by decide) kf47 (fun _ h9 => h9) rfl dX2_needLatch_6 ?_
    refine lv_icmp_lt (tgt := 22) hx hb dX2_needLatch_9 (by decide) (fun c2 => ?_) (fun c2 => ?_)
    · exact absurd c2 (Int32.not_lt.mpr (h1.resolve_left c1))
    · exact th_S (cls := "java/lang/IndexOutOfBoundsException") (text := "no such latch") hx hb hl9 hown (by decide +kernel) (hts (.classLink RX2 120 "java/lang/IndexOutOfBoundsException") (by decide +kernel)) (hts (.initialized "java/lang/IndexOutOfBoundsException") (by decide +kernel)) hgw_io hng_io hgd_io hE (by decide) (by decide) (by rw [hml]; exact hl.1) dX2_needLatch_12 dX2_needLatch_15 dX2_needLatch_16 dX2_needLatch_18 dX2_needLatch_21 hno (Nat.le_of_ble_eq_true rfl) (Nat.le_of_ble_eq_true rfl) (Nat.le_of_ble_eq_true rfl) (Nat.le_of_ble_eq_true rfl) hlocks
set_option maxHeartbeats 4000000 in
set_option maxRecDepth 100000 in
/-- room for a node: goes on -/
theorem c_X2_needRoomForNode (h1 : ¬ cnt = 400) (h2 : cnt ≤ 400) : Met l yX2_needRoomForNode wsX2_needRoomForNode { frames := 0, cells := 0, slots := 0, locals := 0 } (re_P D [(cI, .int), (cJ, .long)] (xW h hn ow fi ma ro ha oa na sa he ob nb sb cI cJ ic lc stp ap cnt len fo ff fk fr oA cA rA tA gA nA sA oB cB rB tB gB nB sB) tp [.ref h]) rv_Q 0 0 (fun _ => False) := by
  refine Met.ofW (cc := cX2_needRoomForNode) (maxL := 1) (ret := none) (by decide) rfl ?_
  intro p e s m args below meth c s₁ B hml hv
  obtain ⟨rfl, ⟨hP, hK⟩, hE⟩ := hv
  have hx := B.exec
  have hb := B.bytes
  have hr := B.returns
  have hts := atoms_spec (ws := wsX2_needRoomForNode) B.pre
  have hown : s.vm.findClass RX2 = some m.cls := findClass_of_methodNamed B.named
  have hlocks := B.notSynchronized
  have hl := lv_entry ([.ref h]) (n := 1) (Nat.le_of_ble_eq_true rfl)
  rw [lg_entry_eq]
  generalize (lg_sl ([.ref h]) ++ List.replicate (1 - (lg_sl ([.ref h])).length) Slot.unset).toArray = ls at hl ⊢
  have hl : lv_has ls 1 [(0, .ref h)] := hl
  have hP : va_P D vwCl [(h, .inr (2, [.ref hn, .ref ha, .ref he, .int (nI ic), .int (nI lc), .int (nI stp), .int ap])), (hn, .inr (1, [.int (nI cnt), .ref ow, .ref fi, .ref ma, .ref ro])), (ow, .inl (cI, 400, .inl fo)), (fi, .inl (cI, 400, .inl ff)), (ma, .inl (cJ, 400, .inr (.inl fk))), (ro, .inl (cJ, len, .inr (.inl fr))), (ha, .inr (0, [.ref oa, .ref na, .ref sa, .int (nI oA), .int (nI cA), .int (nI rA), .int (nI tA)])), (oa, .inl (cI, 16, .inl (fun j => nI (gA j)))), (na, .inl (cI, 4, .inl (fun j => nI (nA j)))), (sa, .inl (cI, 16, .inl sA)), (he, .inr (0, [.ref ob, .ref nb, .ref sb, .int (nI oB), .int (nI cB), .int (nI rB), .int (nI tB)])), (ob, .inl (cI, 16, .inl (fun j => nI (gB j)))), (nb, .inl (cI, 4, .inl (fun j => nI (nB j)))), (sb, .inl (cI, 16, .inl sB))] s.heap := hP
  have hin1 : ∀ w ∈ wsX10, w ∈ wsX2_needRoomForNode := by decide +kernel
  have hin2 : ∀ w ∈ wsX20, w ∈ wsX2_needRoomForNode := by decide +kernel
  have kf12 := hts (.fieldLink RX2 12 "SweepEqual" "nodes" "LSweepEqual$Nodes;") (by decide +kernel)
  have kf169 := hts (.fieldLink RX2 169 "SweepEqual$Nodes" "count" "I") (by decide +kernel)
  refine lv_aload_n hx hb dX2_needRoomForNode_0 rfl (lv_at hl 0 rfl) ?_
  refine va_get (D := D) (ci := 2) (v := .ref hn) (C := RX2) (T := TX2) (N := 7) hx hb hts hin2 hown hK hP 0 rfl rfl 0 (by decide) kf12 (fun _ h9 => h9) rfl dX2_needRoomForNode_1 ?_
  refine va_get (D := D) (ci := 1) (v := .int (nI cnt)) (C := RX1) (T := TX1) (N := 5) hx hb hts hin1 hown hK hP 1 rfl rfl 0 (by decide) kf169 (fun _ h9 => h9) rfl dX2_needRoomForNode_4 ?_
  refine lv_sipush (v := nI 400) hx hb dX2_needRoomForNode_7 (by decide) ?_
  refine lv_icmp_ne (tgt := 23) hx hb dX2_needRoomForNode_10 (by decide) (fun c1 => ?_) (fun c1 => ?_)
  · have c1 : ¬ cnt = 400 := fun h => c1 ((nI_eq (by omega) (by omega)).mpr h)
    exact rv_r hx hb hr hlocks dX2_needRoomForNode_23
  · have c1 : cnt = 400 := (nI_eq (by omega) (by omega)).mp c1
    exact absurd c1 h1
set_option maxHeartbeats 4000000 in
set_option maxRecDepth 100000 in
/-- 400 nodes: throws -/
theorem t_X2_needRoomForNode (hl9 : l.stackTraces = false) (h1 : cnt = 400) : TH l yX2_needRoomForNode wsX2_needRoomForNode { frames := 6, cells := 1, slots := 6, locals := 82 } (re_P D [(cI, .int), (cJ, .long)] (xW h hn ow fi ma ro ha oa na sa he ob nb sb cI cJ ic lc stp ap cnt len fo ff fk fr oA cA rA tA gA nA sA oB cB rB tB gB nB sB) tp [.ref h]) "java/lang/IllegalStateException" := by
  refine vx_ofW (cc := cX2_needRoomForNode) (maxL := 1) (ret := none) (by decide) rfl ?_
  intro p e s m args below meth c s₁ B hml hno hv
  obtain ⟨rfl, ⟨hP, hK⟩, hE⟩ := hv
  have hx := B.exec
  have hb := B.bytes
  have hr := B.returns
  have hts := atoms_spec (ws := wsX2_needRoomForNode) B.pre
  have hown : s.vm.findClass RX2 = some m.cls := findClass_of_methodNamed B.named
  have hlocks := B.notSynchronized
  have hl := lv_entry ([.ref h]) (n := 1) (Nat.le_of_ble_eq_true rfl)
  rw [lg_entry_eq]
  generalize (lg_sl ([.ref h]) ++ List.replicate (1 - (lg_sl ([.ref h])).length) Slot.unset).toArray = ls at hl ⊢
  have hl : lv_has ls 1 [(0, .ref h)] := hl
  have hP : va_P D vwCl [(h, .inr (2, [.ref hn, .ref ha, .ref he, .int (nI ic), .int (nI lc), .int (nI stp), .int ap])), (hn, .inr (1, [.int (nI cnt), .ref ow, .ref fi, .ref ma, .ref ro])), (ow, .inl (cI, 400, .inl fo)), (fi, .inl (cI, 400, .inl ff)), (ma, .inl (cJ, 400, .inr (.inl fk))), (ro, .inl (cJ, len, .inr (.inl fr))), (ha, .inr (0, [.ref oa, .ref na, .ref sa, .int (nI oA), .int (nI cA), .int (nI rA), .int (nI tA)])), (oa, .inl (cI, 16, .inl (fun j => nI (gA j)))), (na, .inl (cI, 4, .inl (fun j => nI (nA j)))), (sa, .inl (cI, 16, .inl sA)), (he, .inr (0, [.ref ob, .ref nb, .ref sb, .int (nI oB), .int (nI cB), .int (nI rB), .int (nI tB)])), (ob, .inl (cI, 16, .inl (fun j => nI (gB j)))), (nb, .inl (cI, 4, .inl (fun j => nI (nB j)))), (sb, .inl (cI, 16, .inl sB))] s.heap := hP
  have hin1 : ∀ w ∈ wsX10, w ∈ wsX2_needRoomForNode := by decide +kernel
  have hin2 : ∀ w ∈ wsX20, w ∈ wsX2_needRoomForNode := by decide +kernel
  have kf12 := hts (.fieldLink RX2 12 "SweepEqual" "nodes" "LSweepEqual$Nodes;") (by decide +kernel)
  have kf169 := hts (.fieldLink RX2 169 "SweepEqual$Nodes" "count" "I") (by decide +kernel)
  have hgw_is : ∀ w ∈ (vx_atS RX2 37 "java/lang/IllegalStateException" xN).filter goodWord, w.before ([.ref h] : List Value).toArray s = true := fun w hw => hts w (inX_X2_needRoomForNode_is w hw)
  refine lv_aload_n hx hb dX2_needRoomForNode_0 rfl (lv_at hl 0 rfl) ?_
  refine va_get (D := D) (ci := 2) (v := .ref hn) (C := RX2) (T := TX2) (N := 7) hx hb hts hin2 hown hK hP 0 rfl rfl 0 (by decide) kf12 (fun _ h9 => h9) rfl dX2_needRoomForNode_1 ?_
  refine va_get (D := D) (ci := 1) (v := .int (nI cnt)) (C := RX1) (T := TX1) (N := 5) hx hb hts hin1 hown hK hP 1 rfl rfl 0 (by decide) kf169 (fun _ h9 => h9) rfl dX2_needRoomForNode_4 ?_
  refine lv_sipush (v := nI 400) hx hb dX2_needRoomForNode_7 (by decide) ?_
  refine lv_icmp_ne (tgt := 23) hx hb dX2_needRoomForNode_10 (by decide) (fun c1 => ?_) (fun c1 => ?_)
  · have c1 : ¬ cnt = 400 := fun h => c1 ((nI_eq (by omega) (by omega)).mpr h)
    exact absurd h1 c1
  · have c1 : cnt = 400 := (nI_eq (by omega) (by omega)).mp c1
    exact th_S (cls := "java/lang/IllegalStateException") (text := "there are 400 nodes") hx hb hl9 hown (by decide +kernel) (hts (.classLink RX2 33 "java/lang/IllegalStateException") (by decide +kernel)) (hts (.initialized "java/lang/IllegalStateException") (by decide +kernel)) hgw_is hng_is hgd_is hE (by decide) (by decide) (by rw [hml]; exact hl.1) dX2_needRoomForNode_13 dX2_needRoomForNode_16 dX2_needRoomForNode_17 dX2_needRoomForNode_19 dX2_needRoomForNode_22 hno (Nat.le_of_ble_eq_true rfl) (Nat.le_of_ble_eq_true rfl) (Nat.le_of_ble_eq_true rfl) (Nat.le_of_ble_eq_true rfl) hlocks
set_option maxHeartbeats 4000000 in
set_option maxRecDepth 100000 in
/-- of both sides or of this one: goes on -/
theorem c_X2_needOwn (sd : Int32) (lit : Nat) (h1 : ¬ (¬ fo (lit / 2) = -1 ∧ ¬ fo (lit / 2) = sd)) (h2 : lit / 2 < 400) : Met l yX2_needOwn wsX2_needOwn { frames := 1, cells := 0, slots := 0, locals := 23 } (re_P D [(cI, .int), (cJ, .long)] (xW h hn ow fi ma ro ha oa na sa he ob nb sb cI cJ ic lc stp ap cnt len fo ff fk fr oA cA rA tA gA nA sA oB cB rB tB gB nB sB) tp [.ref h, .int sd, .int (nI lit)]) rv_Q 0 0 (fun _ => False) := by
  refine Met.ofW (cc := cX2_needOwn) (maxL := 3) (ret := none) (by decide) rfl ?_
  intro p e s m args below meth c s₁ B hml hv
  obtain ⟨rfl, ⟨hP, hK⟩, hE⟩ := hv
  have hx := B.exec
  have hb := B.bytes
  have hr := B.returns
  have hts := atoms_spec (ws := wsX2_needOwn) B.pre
  have hown : s.vm.findClass RX2 = some m.cls := findClass_of_methodNamed B.named
  have hlocks := B.notSynchronized
  have hl := lv_entry ([.ref h, .int sd, .int (nI lit)]) (n := 3) (Nat.le_of_ble_eq_true rfl)
  rw [lg_entry_eq]
  generalize (lg_sl ([.ref h, .int sd, .int (nI lit)]) ++ List.replicate (3 - (lg_sl ([.ref h, .int sd, .int (nI lit)])).length) Slot.unset).toArray = ls at hl ⊢
  have hl : lv_has ls 3 [(0, .ref h), (1, .int sd), (2, .int (nI lit))] := hl
  have hP : va_P D vwCl [(h, .inr (2, [.ref hn, .ref ha, .ref he, .int (nI ic), .int (nI lc), .int (nI stp), .int ap])), (hn, .inr (1, [.int (nI cnt), .ref ow, .ref fi, .ref ma, .ref ro])), (ow, .inl (cI, 400, .inl fo)), (fi, .inl (cI, 400, .inl ff)), (ma, .inl (cJ, 400, .inr (.inl fk))), (ro, .inl (cJ, len, .inr (.inl fr))), (ha, .inr (0, [.ref oa, .ref na, .ref sa, .int (nI oA), .int (nI cA), .int (nI rA), .int (nI tA)])), (oa, .inl (cI, 16, .inl (fun j => nI (gA j)))), (na, .inl (cI, 4, .inl (fun j => nI (nA j)))), (sa, .inl (cI, 16, .inl sA)), (he, .inr (0, [.ref ob, .ref nb, .ref sb, .int (nI oB), .int (nI cB), .int (nI rB), .int (nI tB)])), (ob, .inl (cI, 16, .inl (fun j => nI (gB j)))), (nb, .inl (cI, 4, .inl (fun j => nI (nB j)))), (sb, .inl (cI, 16, .inl sB))] s.heap := hP
  have hin2 : ∀ w ∈ wsX20, w ∈ wsX2_needOwn := by decide +kernel
  have kf12 := hts (.fieldLink RX2 12 "SweepEqual" "nodes" "LSweepEqual$Nodes;") (by decide +kernel)
  refine lv_aload_n hx hb dX2_needOwn_0 rfl (lv_at hl 0 rfl) ?_
  refine va_get (D := D) (ci := 2) (v := .ref hn) (C := RX2) (T := TX2) (N := 7) hx hb hts hin2 hown hK hP 0 rfl rfl 0 (by decide) kf12 (fun _ h9 => h9) rfl dX2_needOwn_1 ?_
  refine lv_iload_n hx hb dX2_needOwn_4 rfl (lv_at hl 1 rfl) ?_
  refine lv_iload_n hx hb dX2_needOwn_5 rfl (lv_at hl 2 rfl) ?_
  refine rd_V (As := [.int sd, .int (nI lit)]) (rest := []) ⟨hx, hb, hml, hown, hts⟩ (c_X1_isOfOtherSide l D cI cJ hn ow fi ma ro cnt len fo ff fk fr sd lit h2) (cwV 2 hts gX2_needOwn_X1_isOfOtherSide rfl rfl rfl (by decide +kernel) ⟨Nat.le_of_ble_eq_true rfl, Nat.le_of_ble_eq_true rfl⟩) (rd_pv (ci := 1) (q0 := 0) hK (hP.sub (ws' := [(hn, .inr (1, [.int (nI cnt), .ref ow, .ref fi, .ref ma, .ref ro])), (ow, .inl (cI, 400, .inl fo)), (fi, .inl (cI, 400, .inl ff)), (ma, .inl (cJ, 400, .inr (.inl fk))), (ro, .inl (cJ, len, .inr (.inl fr)))]) [1, 2, 3, 4, 5] rfl) rfl rfl) rfl hl.1 rfl (Nat.le_of_ble_eq_true rfl) dX2_needOwn_6 ⟨Nat.zero_le _, Nat.zero_le _⟩ ?_
  refine lv_if_eq (tgt := 22) hx hb dX2_needOwn_9 (by decide) (fun c1 => ?_) (fun c1 => ?_)
  · exact rv_r hx hb hr hlocks dX2_needOwn_22
  · exact absurd (zI_eq0.mpr (decide_eq_false h1)) c1
set_option maxHeartbeats 4000000 in
set_option maxRecDepth 100000 in
/-- of the other side: throws -/
theorem t_X2_needOwn (hl9 : l.stackTraces = false) (sd : Int32) (lit : Nat) (h1 : ¬ fo (lit / 2) = -1 ∧ ¬ fo (lit / 2) = sd) (h2 : lit / 2 < 400) : TH l yX2_needOwn wsX2_needOwn { frames := 6, cells := 1, slots := 6, locals := 82 } (re_P D [(cI, .int), (cJ, .long)] (xW h hn ow fi ma ro ha oa na sa he ob nb sb cI cJ ic lc stp ap cnt len fo ff fk fr oA cA rA tA gA nA sA oB cB rB tB gB nB sB) tp [.ref h, .int sd, .int (nI lit)]) "java/lang/IllegalArgumentException" := by
  refine vx_ofW (cc := cX2_needOwn) (maxL := 3) (ret := none) (by decide) rfl ?_
  intro p e s m args below meth c s₁ B hml hno hv
  obtain ⟨rfl, ⟨hP, hK⟩, hE⟩ := hv
  have hx := B.exec
  have hb := B.bytes
  have hr := B.returns
  have hts := atoms_spec (ws := wsX2_needOwn) B.pre
  have hown : s.vm.findClass RX2 = some m.cls := findClass_of_methodNamed B.named
  have hlocks := B.notSynchronized
  have hl := lv_entry ([.ref h, .int sd, .int (nI lit)]) (n := 3) (Nat.le_of_ble_eq_true rfl)
  rw [lg_entry_eq]
  generalize (lg_sl ([.ref h, .int sd, .int (nI lit)]) ++ List.replicate (3 - (lg_sl ([.ref h, .int sd, .int (nI lit)])).length) Slot.unset).toArray = ls at hl ⊢
  have hl : lv_has ls 3 [(0, .ref h), (1, .int sd), (2, .int (nI lit))] := hl
  have hP : va_P D vwCl [(h, .inr (2, [.ref hn, .ref ha, .ref he, .int (nI ic), .int (nI lc), .int (nI stp), .int ap])), (hn, .inr (1, [.int (nI cnt), .ref ow, .ref fi, .ref ma, .ref ro])), (ow, .inl (cI, 400, .inl fo)), (fi, .inl (cI, 400, .inl ff)), (ma, .inl (cJ, 400, .inr (.inl fk))), (ro, .inl (cJ, len, .inr (.inl fr))), (ha, .inr (0, [.ref oa, .ref na, .ref sa, .int (nI oA), .int (nI cA), .int (nI rA), .int (nI tA)])), (oa, .inl (cI, 16, .inl (fun j => nI (gA j)))), (na, .inl (cI, 4, .inl (fun j => nI (nA j)))), (sa, .inl (cI, 16, .inl sA)), (he, .inr (0, [.ref ob, .ref nb, .ref sb, .int (nI oB), .int (nI cB), .int (nI rB), .int (nI tB)])), (ob, .inl (cI, 16, .inl (fun j => nI (gB j)))), (nb, .inl (cI, 4, .inl (fun j => nI (nB j)))), (sb, .inl (cI, 16, .inl sB))] s.heap := hP
  have hin2 : ∀ w ∈ wsX20, w ∈ wsX2_needOwn := by decide +kernel
  have kf12 := hts (.fieldLink RX2 12 "SweepEqual" "nodes" "LSweepEqual$Nodes;") (by decide +kernel)
  have hgw_ia : ∀ w ∈ (vx_atS RX2 191 "java/lang/IllegalArgumentException" xN).filter goodWord, w.before ([.ref h, .int sd, .int (nI lit)] : List Value).toArray s = true := fun w hw => hts w (inX_X2_needOwn_ia w hw)
  refine lv_aload_n hx hb dX2_needOwn_0 rfl (lv_at hl 0 rfl) ?_
  refine va_get (D := D) (ci := 2) (v := .ref hn) (C := RX2) (T := TX2) (N := 7) hx hb hts hin2 hown hK hP 0 rfl rfl 0 (by decide) kf12 (fun _ h9 => h9) rfl dX2_needOwn_1 ?_
  refine lv_iload_n hx hb dX2_needOwn_4 rfl (lv_at hl 1 rfl) ?_
  refine lv_iload_n hx hb dX2_needOwn_5 rfl (lv_at hl 2 rfl) ?_
  refine rd_V (As := [.int sd, .int (nI lit)]) (rest := []) ⟨hx, hb, hml, hown, hts⟩ (c_X1_isOfOtherSide l D cI cJ hn ow fi ma ro cnt len fo ff fk fr sd lit h2) (cwV 2 hts gX2_needOwn_X1_isOfOtherSide rfl rfl rfl (by decide +kernel) ⟨Nat.le_of_ble_eq_true rfl, Nat.le_of_ble_eq_true rfl⟩) (rd_pv (ci := 1) (q0 := 0) hK (hP.sub (ws' := [(hn, .inr (1, [.int (nI cnt), .ref ow, .ref fi, .ref ma, .ref ro])), (ow, .inl (cI, 400, .inl fo)), (fi, .inl (cI, 400, .inl ff)), (ma, .inl (cJ, 400, .inr (.inl fk))), (ro, .inl (cJ, len, .inr (.inl fr)))]) [1, 2, 3, 4, 5] rfl) rfl rfl) rfl hl.1 rfl (Nat.le_of_ble_eq_true rfl) dX2_needOwn_6 ⟨Nat.zero_le _, Nat.zero_le _⟩ ?_
  refine lv_if_eq (tgt := 22) hx hb dX2_needOwn_9 (by decide) (fun c1 => ?_) (fun c1 => ?_)
  · exact absurd h1 (of_decide_eq_false (zI_eq0.mp c1))
  · exact th_S (cls := "java/lang/IllegalArgumentException") (text := "a literal is of an AND of the other side") hx hb hl9 hown (by decide +kernel) (hts (.classLink RX2 187 "java/lang/IllegalArgumentException") (by decide +kernel)) (hts (.initialized "java/lang/IllegalArgumentException") (by decide +kernel)) hgw_ia hng_ia hgd_ia hE (by decide) (by decide) (by rw [hml]; exact hl.1) dX2_needOwn_12 dX2_needOwn_15 dX2_needOwn_16 dX2_needOwn_18 dX2_needOwn_21 hno (Nat.le_of_ble_eq_true rfl) (Nat.le_of_ble_eq_true rfl) (Nat.le_of_ble_eq_true rfl) (Nat.le_of_ble_eq_true rfl) hlocks
end XG
