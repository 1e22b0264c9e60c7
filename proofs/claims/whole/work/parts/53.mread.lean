/-! The model: readers. -/
section MR
variable (l : Launch) (D : va_G) (cI cJ : ClassId) (tp : Nat) (hm q0 q1 q2 q3 q4 q5 q6 q7 q8 q9 : Nat) (th : Int32) (nd : Nat) (fs : Nat → Int32) (ft : Nat → Int64) (mi ml : Nat) (fl : Nat → Int32) (gS gX gT gC gO : Nat → Nat) (fD : Nat → Int32) (gE : Nat → Nat) (sp : Nat) (fa : Int32)
set_option maxHeartbeats 4000000 in
set_option maxRecDepth 100000 in
/-- whether a number is of 0 to y - 1 -/
theorem c_X3_isIn (x y : Int32) : Met l yX3_isIn wsX3_isIn { frames := 0, cells := 0, slots := 0, locals := 0 } (fun v _ => v = ([.int x, .int y] : List Value).toArray) (k2_QcV (.int (zI (decide (¬ x < 0 ∧ ¬ y ≤ x))))) 0 0 (fun _ => False) := by
  refine Met.ofW (cc := cX3_isIn) (maxL := 2) (ret := (some .boolean)) (by decide) rfl ?_
  intro p e s m args below meth c s₁ B hml hv
  obtain rfl := hv
  have hx := B.exec
  have hb := B.bytes
  have hr := B.returns
  have hts := atoms_spec (ws := wsX3_isIn) B.pre
  have hown : s.vm.findClass RX3 = some m.cls := findClass_of_methodNamed B.named
  have hlocks := B.notSynchronized
  have hl := lv_entry ([.int x, .int y]) (n := 2) (Nat.le_of_ble_eq_true rfl)
  rw [lg_entry_eq]
  generalize (lg_sl ([.int x, .int y]) ++ List.replicate (2 - (lg_sl ([.int x, .int y])).length) Slot.unset).toArray = ls at hl ⊢
  have hl : lv_has ls 2 [(0, .int x), (1, .int y)] := hl
  refine lv_iload_n hx hb dX3_isIn_0 rfl (lv_at hl 0 rfl) ?_
  refine lv_if_lt (tgt := 13) hx hb dX3_isIn_1 (by decide) (fun c1 => ?_) (fun c1 => ?_)
  · refine lv_iconst (v := nI 0) hx hb dX3_isIn_13 (by decide) ?_
    exact rd_z hx hb hr hlocks dX3_isIn_14 (by simp [zI, nI_zero, c1]) (zI_01 _)
  · refine lv_iload_n hx hb dX3_isIn_4 rfl (lv_at hl 0 rfl) ?_
    refine lv_iload_n hx hb dX3_isIn_5 rfl (lv_at hl 1 rfl) ?_
    refine lv_icmp_ge (tgt := 13) hx hb dX3_isIn_6 (by decide) (fun c2 => ?_) (fun c2 => ?_)
    · refine lv_iconst (v := nI 0) hx hb dX3_isIn_13 (by decide) ?_
      exact rd_z hx hb hr hlocks dX3_isIn_14 (by simp [zI, nI_zero, c2]) (zI_01 _)
    · refine lv_iconst (v := nI 1) hx hb dX3_isIn_9 (by decide) ?_
      refine lv_goto (tgt := 14) hx hb dX3_isIn_10 (by decide) ?_
      exact rd_z hx hb hr hlocks dX3_isIn_14 (by rw [decide_eq_true (show ¬ x < 0 ∧ ¬ y ≤ x from ⟨c1, c2⟩)]; rfl) (zI_01 _)
set_option maxHeartbeats 4000000 in
set_option maxRecDepth 100000 in
/-- whether a number is a side -/
theorem c_X3_isSide (x : Int32) : Met l yX3_isSide wsX3_isSide { frames := 0, cells := 0, slots := 0, locals := 0 } (fun v _ => v = ([.int x] : List Value).toArray) (k2_QcV (.int (zI (decide (x = 0 ∨ x = 1))))) 0 0 (fun _ => False) := by
  refine Met.ofW (cc := cX3_isSide) (maxL := 1) (ret := (some .boolean)) (by decide) rfl ?_
  intro p e s m args below meth c s₁ B hml hv
  obtain rfl := hv
  have hx := B.exec
  have hb := B.bytes
  have hr := B.returns
  have hts := atoms_spec (ws := wsX3_isSide) B.pre
  have hown : s.vm.findClass RX3 = some m.cls := findClass_of_methodNamed B.named
  have hlocks := B.notSynchronized
  have hl := lv_entry ([.int x]) (n := 1) (Nat.le_of_ble_eq_true rfl)
  rw [lg_entry_eq]
  generalize (lg_sl ([.int x]) ++ List.replicate (1 - (lg_sl ([.int x])).length) Slot.unset).toArray = ls at hl ⊢
  have hl : lv_has ls 1 [(0, .int x)] := hl
  refine lv_iload_n hx hb dX3_isSide_0 rfl (lv_at hl 0 rfl) ?_
  refine lv_if_eq (tgt := 9) hx hb dX3_isSide_1 (by decide) (fun c1 => ?_) (fun c1 => ?_)
  · refine lv_iconst (v := nI 1) hx hb dX3_isSide_9 (by decide) ?_
    refine lv_goto (tgt := 14) hx hb dX3_isSide_10 (by decide) ?_
    exact rd_z hx hb hr hlocks dX3_isSide_14 (by simp [zI, nI_one, c1]) (zI_01 _)
  · refine lv_iload_n hx hb dX3_isSide_4 rfl (lv_at hl 0 rfl) ?_
    refine lv_iconst (v := 1) hx hb dX3_isSide_5 (by decide) ?_
    refine lv_icmp_ne (tgt := 13) hx hb dX3_isSide_6 (by decide) (fun c2 => ?_) (fun c2 => ?_)
    · refine lv_iconst (v := nI 0) hx hb dX3_isSide_13 (by decide) ?_
      exact rd_z hx hb hr hlocks dX3_isSide_14 (by simp [zI, nI_zero, c1, c2]) (zI_01 _)
    · refine lv_iconst (v := nI 1) hx hb dX3_isSide_9 (by decide) ?_
      refine lv_goto (tgt := 14) hx hb dX3_isSide_10 (by decide) ?_
      exact rd_z hx hb hr hlocks dX3_isSide_14 (by simp [zI, nI_one, c2]) (zI_01 _)
set_option maxHeartbeats 4000000 in
set_option maxRecDepth 100000 in
/-- whether a number is a literal -/
theorem c_X3_isLiteral (x : Int32) : Met l yX3_isLiteral wsX3_isLiteral { frames := 0, cells := 0, slots := 0, locals := 0 } (rd_P D [(cI, .int), (cJ, .long)] (mW hm q0 q1 q2 q3 q4 q5 q6 q7 q8 q9 cI cJ th nd fs ft mi ml fl gS gX gT gC gO fD gE sp fa) [.ref hm, .int x]) (k2_QcV (.int (zI (decide (¬ x < 0 ∧ ¬ nI (2 * nd) ≤ x))))) 0 0 (fun _ => False) := by
  refine Met.ofW (cc := cX3_isLiteral) (maxL := 2) (ret := (some .boolean)) (by decide) rfl ?_
  intro p e s m args below meth c s₁ B hml hv
  obtain ⟨rfl, hP, hK⟩ := hv
  have hx := B.exec
  have hb := B.bytes
  have hr := B.returns
  have hts := atoms_spec (ws := wsX3_isLiteral) B.pre
  have hown : s.vm.findClass RX3 = some m.cls := findClass_of_methodNamed B.named
  have hlocks := B.notSynchronized
  have hl := lv_entry ([.ref hm, .int x]) (n := 2) (Nat.le_of_ble_eq_true rfl)
  rw [lg_entry_eq]
  generalize (lg_sl ([.ref hm, .int x]) ++ List.replicate (2 - (lg_sl ([.ref hm, .int x])).length) Slot.unset).toArray = ls at hl ⊢
  have hl : lv_has ls 2 [(0, .ref hm), (1, .int x)] := hl
  have hP : va_P D vwCl [(hm, .inr (3, [.int th, .int (nI nd), .ref q0, .ref q1, .int (nI mi), .int (nI ml), .ref q2, .ref q3, .ref q4, .ref q5, .ref q6, .ref q7, .ref q8, .ref q9, .int (nI sp), .int fa])), (q0, .inl (cI, 401, .inl fs)), (q1, .inl (cJ, 25664, .inr (.inl ft))), (q2, .inl (cI, 4, .inl fl)), (q3, .inl (cI, 8, .inl (fun j => nI (gS j)))), (q4, .inl (cI, 8, .inl (fun j => nI (gX j)))), (q5, .inl (cI, 8, .inl (fun j => nI (gT j)))), (q6, .inl (cI, 2, .inl (fun j => nI (gC j)))), (q7, .inl (cI, 32, .inl (fun j => nI (gO j)))), (q8, .inl (cI, 32, .inl fD)), (q9, .inl (cI, 2, .inl (fun j => nI (gE j))))] s.heap := hP
  have hin3 : ∀ w ∈ wsX30, w ∈ wsX3_isLiteral := by decide +kernel
  have kf48 := hts (.fieldLink RX3 48 "SweepEqualModel" "nodes" "I") (by decide +kernel)
  refine lv_iload_n hx hb dX3_isLiteral_0 rfl (lv_at hl 1 rfl) ?_
  refine lv_if_lt (tgt := 18) hx hb dX3_isLiteral_1 (by decide) (fun c1 => ?_) (fun c1 => ?_)
  · refine lv_iconst (v := nI 0) hx hb dX3_isLiteral_18 (by decide) ?_
    exact rd_z hx hb hr hlocks dX3_isLiteral_19 (by simp [zI, nI_zero, c1]) (zI_01 _)
  · refine lv_iload_n hx hb dX3_isLiteral_4 rfl (lv_at hl 1 rfl) ?_
    refine lv_iconst (v := nI 2) hx hb dX3_isLiteral_5 (by decide) ?_
    refine lv_aload_n hx hb dX3_isLiteral_6 rfl (lv_at hl 0 rfl) ?_
    refine va_get (D := D) (ci := 3) (v := .int (nI nd)) (C := RX3) (T := TX3) (N := 16) hx hb hts hin3 hown hK hP 0 rfl rfl 1 (by decide) kf48 (fun _ h9 => h9) rfl dX3_isLiteral_7 ?_
    refine lv_imul hx hb dX3_isLiteral_10 ?_
    refine tp_i (show (nI 2) * (nI nd) = nI (2 * nd) from pk_mul _ _) ?_
    refine lv_icmp_ge (tgt := 18) hx hb dX3_isLiteral_11 (by decide) (fun c2 => ?_) (fun c2 => ?_)
    · refine lv_iconst (v := nI 0) hx hb dX3_isLiteral_18 (by decide) ?_
      exact rd_z hx hb hr hlocks dX3_isLiteral_19 (by simp [zI, nI_zero, c2]) (zI_01 _)
    · refine lv_iconst (v := nI 1) hx hb dX3_isLiteral_14 (by decide) ?_
      refine lv_goto (tgt := 19) hx hb dX3_isLiteral_15 (by decide) ?_
      exact rd_z hx hb hr hlocks dX3_isLiteral_19 (by rw [decide_eq_true (show ¬ x < 0 ∧ ¬ nI (2 * nd) ≤ x from ⟨c1, c2⟩)]; rfl) (zI_01 _)
set_option maxHeartbeats 4000000 in
set_option maxRecDepth 100000 in
/-- whether a literal is of the other side -/
theorem c_X3_isOther (sd : Int32) (lit : Nat) (h1 : lit / 2 < 401) : Met l yX3_isOther wsX3_isOther { frames := 0, cells := 0, slots := 0, locals := 0 } (rd_P D [(cI, .int), (cJ, .long)] (mW hm q0 q1 q2 q3 q4 q5 q6 q7 q8 q9 cI cJ th nd fs ft mi ml fl gS gX gT gC gO fD gE sp fa) [.ref hm, .int sd, .int (nI lit)]) (k2_QcV (.int (zI (decide (¬ fs (lit / 2) = -1 ∧ ¬ fs (lit / 2) = sd))))) 0 0 (fun _ => False) := by
  refine Met.ofW (cc := cX3_isOther) (maxL := 3) (ret := (some .boolean)) (by decide) rfl ?_
  intro p e s m args below meth c s₁ B hml hv
  obtain ⟨rfl, hP, hK⟩ := hv
  have hx := B.exec
  have hb := B.bytes
  have hr := B.returns
  have hts := atoms_spec (ws := wsX3_isOther) B.pre
  have hown : s.vm.findClass RX3 = some m.cls := findClass_of_methodNamed B.named
  have hlocks := B.notSynchronized
  have hl := lv_entry ([.ref hm, .int sd, .int (nI lit)]) (n := 3) (Nat.le_of_ble_eq_true rfl)
  rw [lg_entry_eq]
  generalize (lg_sl ([.ref hm, .int sd, .int (nI lit)]) ++ List.replicate (3 - (lg_sl ([.ref hm, .int sd, .int (nI lit)])).length) Slot.unset).toArray = ls at hl ⊢
  have hl : lv_has ls 3 [(0, .ref hm), (1, .int sd), (2, .int (nI lit))] := hl
  have hP : va_P D vwCl [(hm, .inr (3, [.int th, .int (nI nd), .ref q0, .ref q1, .int (nI mi), .int (nI ml), .ref q2, .ref q3, .ref q4, .ref q5, .ref q6, .ref q7, .ref q8, .ref q9, .int (nI sp), .int fa])), (q0, .inl (cI, 401, .inl fs)), (q1, .inl (cJ, 25664, .inr (.inl ft))), (q2, .inl (cI, 4, .inl fl)), (q3, .inl (cI, 8, .inl (fun j => nI (gS j)))), (q4, .inl (cI, 8, .inl (fun j => nI (gX j)))), (q5, .inl (cI, 8, .inl (fun j => nI (gT j)))), (q6, .inl (cI, 2, .inl (fun j => nI (gC j)))), (q7, .inl (cI, 32, .inl (fun j => nI (gO j)))), (q8, .inl (cI, 32, .inl fD)), (q9, .inl (cI, 2, .inl (fun j => nI (gE j))))] s.heap := hP
  have hin3 : ∀ w ∈ wsX30, w ∈ wsX3_isOther := by decide +kernel
  have kf7 := hts (.fieldLink RX3 7 "SweepEqualModel" "sides" "[I") (by decide +kernel)
  refine lv_aload_n hx hb dX3_isOther_0 rfl (lv_at hl 0 rfl) ?_
  refine va_get (D := D) (ci := 3) (v := .ref q0) (C := RX3) (T := TX3) (N := 16) hx hb hts hin3 hown hK hP 0 rfl rfl 2 (by decide) kf7 (fun _ h9 => h9) rfl dX3_isOther_1 ?_
  refine lv_iload_n hx hb dX3_isOther_4 rfl (lv_at hl 2 rfl) ?_
  refine lv_iconst (v := nI 2) hx hb dX3_isOther_5 (by decide) ?_
  refine lv_idiv hx hb dX3_isOther_6 (nI_ne0 (by omega) (by omega)) ?_
  refine tp_i (show (nI lit) / (nI 2) = nI (lit / 2) from pk_div (by omega) (by omega) (by omega)) ?_
  refine va_iald hx hb hK hP 1 0 rfl rfl (vp_in_nI (by omega) (by omega)) dX3_isOther_7 ?_
  refine tp_i (show fs (nI (lit / 2)).toNatClampNeg = fs (lit / 2) from congrArg fs (nI_clamp (by omega))) ?_
  refine lv_iconst (v := -1) hx hb dX3_isOther_8 (by decide) ?_
  refine lv_icmp_eq (tgt := 28) hx hb dX3_isOther_9 (by decide) (fun c1 => ?_) (fun c1 => ?_)
  · refine lv_iconst (v := nI 0) hx hb dX3_isOther_28 (by decide) ?_
    exact rd_z hx hb hr hlocks dX3_isOther_29 (by simp [zI, nI_zero, c1]) (zI_01 _)
  · refine lv_aload_n hx hb dX3_isOther_12 rfl (lv_at hl 0 rfl) ?_
    refine va_get (D := D) (ci := 3) (v := .ref q0) (C := RX3) (T := TX3) (N := 16) hx hb hts hin3 hown hK hP 0 rfl rfl 2 (by decide) kf7 (fun _ h9 => h9) rfl dX3_isOther_13 ?_
    refine lv_iload_n hx hb dX3_isOther_16 rfl (lv_at hl 2 rfl) ?_
    refine lv_iconst (v := nI 2) hx hb dX3_isOther_17 (by decide) ?_
    refine lv_idiv hx hb dX3_isOther_18 (nI_ne0 (by omega) (by omega)) ?_
    refine tp_i (show (nI lit) / (nI 2) = nI (lit / 2) from pk_div (by omega) (by omega) (by omega)) ?_
    refine va_iald hx hb hK hP 1 0 rfl rfl (vp_in_nI (by omega) (by omega)) dX3_isOther_19 ?_
    refine tp_i (show fs (nI (lit / 2)).toNatClampNeg = fs (lit / 2) from congrArg fs (nI_clamp (by omega))) ?_
    refine lv_iload_n hx hb dX3_isOther_20 rfl (lv_at hl 1 rfl) ?_
    refine lv_icmp_eq (tgt := 28) hx hb dX3_isOther_21 (by decide) (fun c2 => ?_) (fun c2 => ?_)
    · refine lv_iconst (v := nI 0) hx hb dX3_isOther_28 (by decide) ?_
      exact rd_z hx hb hr hlocks dX3_isOther_29 (by simp [zI, nI_zero, c2]) (zI_01 _)
    · refine lv_iconst (v := nI 1) hx hb dX3_isOther_24 (by decide) ?_
      refine lv_goto (tgt := 29) hx hb dX3_isOther_25 (by decide) ?_
      exact rd_z hx hb hr hlocks dX3_isOther_29 (by rw [decide_eq_true (show ¬ fs (lit / 2) = -1 ∧ ¬ fs (lit / 2) = sd from ⟨c1, c2⟩)]; rfl) (zI_01 _)
set_option maxHeartbeats 4000000 in
set_option maxRecDepth 100000 in
/-- the mask of what is present -/
theorem c_X3_present (hmi : mi ≤ 8) (hml9 : ml ≤ 4) : Met l yX3_present wsX3_present { frames := 0, cells := 0, slots := 0, locals := 0 } (rd_P D [(cI, .int), (cJ, .long)] (mW hm q0 q1 q2 q3 q4 q5 q6 q7 q8 q9 cI cJ th nd fs ft mi ml fl gS gX gT gC gO fD gE sp fa) [.ref hm]) (k2_QcV (.int (nI (prN mi ml)))) 0 0 (fun _ => False) := by
  refine Met.ofW (cc := cX3_present) (maxL := 1) (ret := (some .int)) (by decide) rfl ?_
  intro p e s m args below meth c s₁ B hml hv
  obtain ⟨rfl, hP, hK⟩ := hv
  have hx := B.exec
  have hb := B.bytes
  have hr := B.returns
  have hts := atoms_spec (ws := wsX3_present) B.pre
  have hown : s.vm.findClass RX3 = some m.cls := findClass_of_methodNamed B.named
  have hlocks := B.notSynchronized
  have hl := lv_entry ([.ref hm]) (n := 1) (Nat.le_of_ble_eq_true rfl)
  rw [lg_entry_eq]
  generalize (lg_sl ([.ref hm]) ++ List.replicate (1 - (lg_sl ([.ref hm])).length) Slot.unset).toArray = ls at hl ⊢
  have hl : lv_has ls 1 [(0, .ref hm)] := hl
  have hP : va_P D vwCl [(hm, .inr (3, [.int th, .int (nI nd), .ref q0, .ref q1, .int (nI mi), .int (nI ml), .ref q2, .ref q3, .ref q4, .ref q5, .ref q6, .ref q7, .ref q8, .ref q9, .int (nI sp), .int fa])), (q0, .inl (cI, 401, .inl fs)), (q1, .inl (cJ, 25664, .inr (.inl ft))), (q2, .inl (cI, 4, .inl fl)), (q3, .inl (cI, 8, .inl (fun j => nI (gS j)))), (q4, .inl (cI, 8, .inl (fun j => nI (gX j)))), (q5, .inl (cI, 8, .inl (fun j => nI (gT j)))), (q6, .inl (cI, 2, .inl (fun j => nI (gC j)))), (q7, .inl (cI, 32, .inl (fun j => nI (gO j)))), (q8, .inl (cI, 32, .inl fD)), (q9, .inl (cI, 2, .inl (fun j => nI (gE j))))] s.heap := hP
  have hin3 : ∀ w ∈ wsX30, w ∈ wsX3_present := by decide +kernel
  have kf51 := hts (.fieldLink RX3 51 "SweepEqualModel" "inputs" "I") (by decide +kernel)
  have kf54 := hts (.fieldLink RX3 54 "SweepEqualModel" "latches" "I") (by decide +kernel)
  refine lv_iconst (v := nI 1) hx hb dX3_present_0 (by decide) ?_
  refine lv_aload_n hx hb dX3_present_1 rfl (lv_at hl 0 rfl) ?_
  refine va_get (D := D) (ci := 3) (v := .int (nI mi)) (C := RX3) (T := TX3) (N := 16) hx hb hts hin3 hown hK hP 0 rfl rfl 4 (by decide) kf51 (fun _ h9 => h9) rfl dX3_present_2 ?_
  refine lv_ishl hx hb dX3_present_5 ?_
  refine lv_iconst (v := nI 1) hx hb dX3_present_6 (by decide) ?_
  refine lv_isub hx hb dX3_present_7 ?_
  refine lv_iconst (v := nI 1) hx hb dX3_present_8 (by decide) ?_
  refine lv_aload_n hx hb dX3_present_9 rfl (lv_at hl 0 rfl) ?_
  refine va_get (D := D) (ci := 3) (v := .int (nI ml)) (C := RX3) (T := TX3) (N := 16) hx hb hts hin3 hown hK hP 0 rfl rfl 5 (by decide) kf54 (fun _ h9 => h9) rfl dX3_present_10 ?_
  refine lv_ishl hx hb dX3_present_13 ?_
  refine lv_iconst (v := nI 1) hx hb dX3_present_14 (by decide) ?_
  refine lv_isub hx hb dX3_present_15 ?_
  refine lv_bipush (v := nI 8) hx hb dX3_present_16 (by decide) ?_
  refine lv_ishl hx hb dX3_present_18 ?_
  refine lv_ior hx hb dX3_present_19 ?_
  refine tp_i (show (((nI 1) <<< ((nI mi) &&& 31)) - (nI 1)) ||| ((((nI 1) <<< ((nI ml) &&& 31)) - (nI 1)) <<< ((nI 8) &&& 31)) = nI (prN mi ml) from pr_key mi (by omega) ml (by omega)) ?_
  exact rd_i hx hb hr hlocks dX3_present_20 (rfl)
set_option maxHeartbeats 4000000 in
set_option maxRecDepth 100000 in
/-- the bit of a literal in an assignment -/
theorem c_X3_bit (lit a : Nat) (h1 : lit / 2 < 401) (h2 : a < 4096) : Met l yX3_bit wsX3_bit { frames := 0, cells := 0, slots := 0, locals := 0 } (rd_P D [(cI, .int), (cJ, .long)] (mW hm q0 q1 q2 q3 q4 q5 q6 q7 q8 q9 cI cJ th nd fs ft mi ml fl gS gX gT gC gO fD gE sp fa) [.ref hm, .int (nI lit), .int (nI a)]) (k2_QcV (.int (zI (bt ft lit a)))) 0 0 (fun _ => False) := by
  refine Met.ofW (cc := cX3_bit) (maxL := 5) (ret := (some .int)) (by decide) rfl ?_
  intro p e s m args below meth c s₁ B hml hv
  obtain ⟨rfl, hP, hK⟩ := hv
  have hx := B.exec
  have hb := B.bytes
  have hr := B.returns
  have hts := atoms_spec (ws := wsX3_bit) B.pre
  have hown : s.vm.findClass RX3 = some m.cls := findClass_of_methodNamed B.named
  have hlocks := B.notSynchronized
  have hl := lv_entry ([.ref hm, .int (nI lit), .int (nI a)]) (n := 5) (Nat.le_of_ble_eq_true rfl)
  rw [lg_entry_eq]
  generalize (lg_sl ([.ref hm, .int (nI lit), .int (nI a)]) ++ List.replicate (5 - (lg_sl ([.ref hm, .int (nI lit), .int (nI a)])).length) Slot.unset).toArray = ls at hl ⊢
  have hl : lv_has ls 5 [(0, .ref hm), (1, .int (nI lit)), (2, .int (nI a))] := hl
  have hP : va_P D vwCl [(hm, .inr (3, [.int th, .int (nI nd), .ref q0, .ref q1, .int (nI mi), .int (nI ml), .ref q2, .ref q3, .ref q4, .ref q5, .ref q6, .ref q7, .ref q8, .ref q9, .int (nI sp), .int fa])), (q0, .inl (cI, 401, .inl fs)), (q1, .inl (cJ, 25664, .inr (.inl ft))), (q2, .inl (cI, 4, .inl fl)), (q3, .inl (cI, 8, .inl (fun j => nI (gS j)))), (q4, .inl (cI, 8, .inl (fun j => nI (gX j)))), (q5, .inl (cI, 8, .inl (fun j => nI (gT j)))), (q6, .inl (cI, 2, .inl (fun j => nI (gC j)))), (q7, .inl (cI, 32, .inl (fun j => nI (gO j)))), (q8, .inl (cI, 32, .inl fD)), (q9, .inl (cI, 2, .inl (fun j => nI (gE j))))] s.heap := hP
  have hin3 : ∀ w ∈ wsX30, w ∈ wsX3_bit := by decide +kernel
  have kf13 := hts (.fieldLink RX3 13 "SweepEqualModel" "tables" "[J") (by decide +kernel)
  refine lv_aload_n hx hb dX3_bit_0 rfl (lv_at hl 0 rfl) ?_
  refine va_get (D := D) (ci := 3) (v := .ref q1) (C := RX3) (T := TX3) (N := 16) hx hb hts hin3 hown hK hP 0 rfl rfl 3 (by decide) kf13 (fun _ h9 => h9) rfl dX3_bit_1 ?_
  refine lv_bipush (v := nI 64) hx hb dX3_bit_4 (by decide) ?_
  refine lv_iload_n hx hb dX3_bit_6 rfl (lv_at hl 1 rfl) ?_
  refine lv_iconst (v := nI 2) hx hb dX3_bit_7 (by decide) ?_
  refine lv_idiv hx hb dX3_bit_8 (nI_ne0 (by omega) (by omega)) ?_
  refine tp_i (show (nI lit) / (nI 2) = nI (lit / 2) from pk_div (by omega) (by omega) (by omega)) ?_
  refine lv_imul hx hb dX3_bit_9 ?_
  refine tp_i (show (nI 64) * (nI (lit / 2)) = nI ((lit / 2) * 64) from n_mulc _ _) ?_
  refine lv_iload_n hx hb dX3_bit_10 rfl (lv_at hl 2 rfl) ?_
  refine lv_bipush (v := nI 6) hx hb dX3_bit_11 (by decide) ?_
  refine lv_ishr hx hb dX3_bit_13 ?_
  refine tp_i (show (nI a) >>> ((nI 6) &&& 31) = nI (a / 64) from n_shr (by omega) (by omega)) ?_
  refine lv_iadd hx hb dX3_bit_14 ?_
  refine tp_i (show (nI ((lit / 2) * 64)) + (nI (a / 64)) = nI ((lit / 2) * 64 + (a / 64)) from nI_add _ _) ?_
  refine va_lald hx hb hK hP 2 1 rfl rfl (vp_in_nI (by omega) (by omega)) dX3_bit_15 ?_
  refine tp_l (show ft (nI ((lit / 2) * 64 + (a / 64))).toNatClampNeg = ft ((lit / 2) * 64 + (a / 64)) from congrArg ft (nI_clamp (by omega))) ?_
  refine lv_lstore_n (lv' := [(3, .long (ft ((lit / 2) * 64 + (a / 64)))), (0, .ref hm), (1, .int (nI lit)), (2, .int (nI a))]) hx hb dX3_bit_16 rfl hl (by decide) rfl (fun ls hl => ?_)
  refine lv_lload_n hx hb dX3_bit_17 rfl (lv_at hl 0 rfl) ?_
  refine lv_iload_n hx hb dX3_bit_18 rfl (lv_at hl 3 rfl) ?_
  refine lv_bipush (v := nI 63) hx hb dX3_bit_19 (by decide) ?_
  refine lv_iand hx hb dX3_bit_21 ?_
  refine tp_i (show (nI a) &&& (nI 63) = nI (a % 64) from n_and63 (by omega)) ?_
  refine lv_lushr (v := ((ft ((lit / 2) * 64 + (a / 64))).toUInt64 >>> ((nI (a % 64)).toInt64.toUInt64 &&& Int64.toUInt64 63)).toInt64) hx hb dX3_bit_22 (rfl) ?_
  refine lv_lconst (v := 1) hx hb dX3_bit_23 (by decide) ?_
  refine lv_land hx hb dX3_bit_24 ?_
  refine lv_l2i (v := ((((ft ((lit / 2) * 64 + (a / 64))).toUInt64 >>> ((nI (a % 64)).toInt64.toUInt64 &&& Int64.toUInt64 63)).toInt64) &&& 1).toInt32) hx hb dX3_bit_25 (rfl) ?_
  refine lv_iload_n hx hb dX3_bit_26 rfl (lv_at hl 2 rfl) ?_
  refine lv_iconst (v := nI 1) hx hb dX3_bit_27 (by decide) ?_
  refine lv_iand hx hb dX3_bit_28 ?_
  refine tp_i (show (nI lit) &&& (nI 1) = nI (lit % 2) from n_and1 (by omega)) ?_
  refine lv_ixor hx hb dX3_bit_29 ?_
  refine tp_i (show (((((ft ((lit / 2) * 64 + (a / 64))).toUInt64 >>> ((nI (a % 64)).toInt64.toUInt64 &&& Int64.toUInt64 63)).toInt64) &&& 1).toInt32) ^^^ (nI (lit % 2)) = zI (bt ft lit a) from bit_x) ?_
  exact rd_i hx hb hr hlocks dX3_bit_30 (rfl)
set_option maxHeartbeats 4000000 in
set_option maxRecDepth 100000 in
/-- whether two literals have the same words -/
theorem c_X3_areSame (la lb : Nat) (h1 : la / 2 < 401) (h2 : lb / 2 < 401) : Met l yX3_areSame wsX3_areSame { frames := 0, cells := 0, slots := 0, locals := 0 } (rd_P D [(cI, .int), (cJ, .long)] (mW hm q0 q1 q2 q3 q4 q5 q6 q7 q8 q9 cI cJ th nd fs ft mi ml fl gS gX gT gC gO fD gE sp fa) [.ref hm, .int (nI la), .int (nI lb)]) (k2_QcV (.int (zI (smF ft la lb)))) 0 0 (fun _ => False) := by
  refine Met.ofW (cc := cX3_areSame) (maxL := 6) (ret := (some .boolean)) (by decide) rfl ?_
  intro p e s m args below meth c s₁ B hml hv
  obtain ⟨rfl, hP, hK⟩ := hv
  have hx := B.exec
  have hb := B.bytes
  have hr := B.returns
  have hts := atoms_spec (ws := wsX3_areSame) B.pre
  have hown : s.vm.findClass RX3 = some m.cls := findClass_of_methodNamed B.named
  have hlocks := B.notSynchronized
  have hl := lv_entry ([.ref hm, .int (nI la), .int (nI lb)]) (n := 6) (Nat.le_of_ble_eq_true rfl)
  rw [lg_entry_eq]
  generalize (lg_sl ([.ref hm, .int (nI la), .int (nI lb)]) ++ List.replicate (6 - (lg_sl ([.ref hm, .int (nI la), .int (nI lb)])).length) Slot.unset).toArray = ls at hl ⊢
  have hl : lv_has ls 6 [(0, .ref hm), (1, .int (nI la)), (2, .int (nI lb))] := hl
  have hP : va_P D vwCl [(hm, .inr (3, [.int th, .int (nI nd), .ref q0, .ref q1, .int (nI mi), .int (nI ml), .ref q2, .ref q3, .ref q4, .ref q5, .ref q6, .ref q7, .ref q8, .ref q9, .int (nI sp), .int fa])), (q0, .inl (cI, 401, .inl fs)), (q1, .inl (cJ, 25664, .inr (.inl ft))), (q2, .inl (cI, 4, .inl fl)), (q3, .inl (cI, 8, .inl (fun j => nI (gS j)))), (q4, .inl (cI, 8, .inl (fun j => nI (gX j)))), (q5, .inl (cI, 8, .inl (fun j => nI (gT j)))), (q6, .inl (cI, 2, .inl (fun j => nI (gC j)))), (q7, .inl (cI, 32, .inl (fun j => nI (gO j)))), (q8, .inl (cI, 32, .inl fD)), (q9, .inl (cI, 2, .inl (fun j => nI (gE j))))] s.heap := hP
  have hin3 : ∀ w ∈ wsX30, w ∈ wsX3_areSame := by decide +kernel
  have kf13 := hts (.fieldLink RX3 13 "SweepEqualModel" "tables" "[J") (by decide +kernel)
  have loop : ∀ (n : Nat) (i : Nat) (turn : Int64), i ≤ 64 → turn = (if la % 2 = lb % 2 then 0 else -1) → (∀ w, w < i → wd ft la w = wd ft lb w) → 64 - i < n → ∀ ls : Array Slot, lv_has ls 6 [(5, .int (nI i)), (3, .long turn), (0, .ref hm), (1, .int (nI la)), (2, .int (nI lb))] → W p l e (headSpec wsX3_areSame { frames := 0, cells := 0, slots := 0, locals := 0 }).room s m ([.ref hm, .int (nI la), .int (nI lb)] : List Value).toArray below meth c s.heap [] 0 0 (MQ below (k2_QcV (.int (zI (smF ft la lb)))) ([.ref hm, .int (nI la), .int (nI lb)] : List Value).toArray s 0 0 (fun _ => False)) (F0 m 20 ls []) := by
    intro n
    induction n with
    | zero => intro i turn hi hT hI hM; exact absurd hM (Nat.not_lt_zero _)
    | succ n ih =>
      intro i turn hi hT hI hM ls hl
      refine lv_iload hx hb dX3_areSame_20 (lv_at hl 0 rfl) ?_
      refine lv_bipush (v := nI 64) hx hb dX3_areSame_22 (by decide) ?_
      refine lv_icmp_ge (tgt := 69) hx hb dX3_areSame_24 (by decide) (fun c1 => ?_) (fun c1 => ?_)
      · have c1 : 64 ≤ i := (nI_leI (by omega) (by omega)).mp c1
        refine lv_iconst (v := nI 1) hx hb dX3_areSame_69 (by decide) ?_
        exact rd_z hx hb hr hlocks dX3_areSame_70 (by rw [smF_t.mpr (fun w hw => hI w (by omega))]; rfl) (zI_01 _)
      · have c1 : ¬ (64 ≤ i) := fun h => c1 ((nI_leI (by omega) (by omega)).mpr h)
        refine lv_aload_n hx hb dX3_areSame_27 rfl (lv_at hl 2 rfl) ?_
        refine va_get (D := D) (ci := 3) (v := .ref q1) (C := RX3) (T := TX3) (N := 16) hx hb hts hin3 hown hK hP 0 rfl rfl 3 (by decide) kf13 (fun _ h9 => h9) rfl dX3_areSame_28 ?_
        refine lv_bipush (v := nI 64) hx hb dX3_areSame_31 (by decide) ?_
        refine lv_iload_n hx hb dX3_areSame_33 rfl (lv_at hl 3 rfl) ?_
        refine lv_iconst (v := nI 2) hx hb dX3_areSame_34 (by decide) ?_
        refine lv_idiv hx hb dX3_areSame_35 (nI_ne0 (by omega) (by omega)) ?_
        refine tp_i (show (nI la) / (nI 2) = nI (la / 2) from pk_div (by omega) (by omega) (by omega)) ?_
        refine lv_imul hx hb dX3_areSame_36 ?_
        refine tp_i (show (nI 64) * (nI (la / 2)) = nI ((la / 2) * 64) from n_mulc _ _) ?_
        refine lv_iload hx hb dX3_areSame_37 (lv_at hl 0 rfl) ?_
        refine lv_iadd hx hb dX3_areSame_39 ?_
        refine tp_i (show (nI ((la / 2) * 64)) + (nI i) = nI ((la / 2) * 64 + i) from nI_add _ _) ?_
        refine va_lald hx hb hK hP 2 1 rfl rfl (vp_in_nI (by omega) (by omega)) dX3_areSame_40 ?_
        refine tp_l (show ft (nI ((la / 2) * 64 + i)).toNatClampNeg = ft ((la / 2) * 64 + i) from congrArg ft (nI_clamp (by omega))) ?_
        refine lv_aload_n hx hb dX3_areSame_41 rfl (lv_at hl 2 rfl) ?_
        refine va_get (D := D) (ci := 3) (v := .ref q1) (C := RX3) (T := TX3) (N := 16) hx hb hts hin3 hown hK hP 0 rfl rfl 3 (by decide) kf13 (fun _ h9 => h9) rfl dX3_areSame_42 ?_
        refine lv_bipush (v := nI 64) hx hb dX3_areSame_45 (by decide) ?_
        refine lv_iload_n hx hb dX3_areSame_47 rfl (lv_at hl 4 rfl) ?_
        refine lv_iconst (v := nI 2) hx hb dX3_areSame_48 (by decide) ?_
        refine lv_idiv hx hb dX3_areSame_49 (nI_ne0 (by omega) (by omega)) ?_
        refine tp_i (show (nI lb) / (nI 2) = nI (lb / 2) from pk_div (by omega) (by omega) (by omega)) ?_
        refine lv_imul hx hb dX3_areSame_50 ?_
        refine tp_i (show (nI 64) * (nI (lb / 2)) = nI ((lb / 2) * 64) from n_mulc _ _) ?_
        refine lv_iload hx hb dX3_areSame_51 (lv_at hl 0 rfl) ?_
        refine lv_iadd hx hb dX3_areSame_53 ?_
        refine tp_i (show (nI ((lb / 2) * 64)) + (nI i) = nI ((lb / 2) * 64 + i) from nI_add _ _) ?_
        refine va_lald hx hb hK hP 2 1 rfl rfl (vp_in_nI (by omega) (by omega)) dX3_areSame_54 ?_
        refine tp_l (show ft (nI ((lb / 2) * 64 + i)).toNatClampNeg = ft ((lb / 2) * 64 + i) from congrArg ft (nI_clamp (by omega))) ?_
        refine lv_lload_n hx hb dX3_areSame_55 rfl (lv_at hl 1 rfl) ?_
        refine lv_lxor hx hb dX3_areSame_56 ?_
        refine W.lcmp hx hb dX3_areSame_57 ?_
        refine lv_if_eq (tgt := 63) hx hb dX3_areSame_58 (by decide) (fun c2 => ?_) (fun c2 => ?_)
        · have c2 : ft ((la / 2) * 64 + i) = (ft ((lb / 2) * 64 + i)) ^^^ turn := lg_cmp0.mp c2
          have c2 := (sm_w hT).mp c2
          refine lv_iinc (v := nI (i + 1)) (lv' := [(5, .int (nI (i + 1))), (3, .long turn), (0, .ref hm), (1, .int (nI la)), (2, .int (nI lb))]) hx hb dX3_areSame_63 hl (k := 0) rfl (nI_add i 1) (by decide) rfl (fun ls hl => ?_)
          refine lv_goto (tgt := 20) hx hb dX3_areSame_66 (by decide) ?_
          exact ih (i + 1) turn (by omega) (hT) (fun w hw => if h : w = i then h ▸ c2 else hI w (by omega)) (by omega) ls (lv_sub hl [0, 1, 2, 3, 4] rfl)
        · have c2 : ¬ (ft ((la / 2) * 64 + i)) = ((ft ((lb / 2) * 64 + i)) ^^^ turn) := fun h => c2 (lg_cmp0.mpr h)
          have c2 : ¬ wd ft la i = wd ft lb i := fun h => c2 ((sm_w hT).mpr h)
          refine lv_iconst (v := nI 0) hx hb dX3_areSame_61 (by decide) ?_
          exact rd_z hx hb hr hlocks dX3_areSame_62 (by rw [smF_n (by omega) c2]; rfl) (zI_01 _)
  refine lv_iload_n hx hb dX3_areSame_0 rfl (lv_at hl 1 rfl) ?_
  refine lv_iconst (v := nI 1) hx hb dX3_areSame_1 (by decide) ?_
  refine lv_iand hx hb dX3_areSame_2 ?_
  refine tp_i (show (nI la) &&& (nI 1) = nI (la % 2) from n_and1 (by omega)) ?_
  refine lv_iload_n hx hb dX3_areSame_3 rfl (lv_at hl 2 rfl) ?_
  refine lv_iconst (v := nI 1) hx hb dX3_areSame_4 (by decide) ?_
  refine lv_iand hx hb dX3_areSame_5 ?_
  refine tp_i (show (nI lb) &&& (nI 1) = nI (lb % 2) from n_and1 (by omega)) ?_
  refine lv_icmp_ne (tgt := 13) hx hb dX3_areSame_6 (by decide) (fun c0 => ?_) (fun c0 => ?_)
  · have c0 : ¬ la % 2 = lb % 2 := fun h => c0 ((nI_eq (by omega) (by omega)).mpr h)
    refine lv_ldc2 hx hb hown (hts (.constantLong RX3 75 (-1)) (by decide +kernel)) dX3_areSame_13 ?_
    refine lv_lstore_n (lv' := [(3, .long (-1)), (0, .ref hm), (1, .int (nI la)), (2, .int (nI lb))]) hx hb dX3_areSame_16 rfl hl (by decide) rfl (fun ls hl => ?_)
    refine lv_iconst (v := nI 0) hx hb dX3_areSame_17 (by decide) ?_
    refine lv_istore (lv' := [(5, .int (nI 0)), (3, .long (-1)), (0, .ref hm), (1, .int (nI la)), (2, .int (nI lb))]) hx hb dX3_areSame_18 hl (by decide) rfl (fun ls hl => ?_)
    exact loop 65 0 (-1) (by omega) ((if_neg c0).symm) (fun w hw => absurd hw (Nat.not_lt_zero _)) (by omega) ls (lv_sub hl [0, 1, 2, 3, 4] rfl)
  · have c0 : la % 2 = lb % 2 := (nI_eq (by omega) (by omega)).mp c0
    refine lv_lconst (v := 0) hx hb dX3_areSame_9 (by decide) ?_
    refine lv_goto (tgt := 16) hx hb dX3_areSame_10 (by decide) ?_
    refine lv_lstore_n (lv' := [(3, .long 0), (0, .ref hm), (1, .int (nI la)), (2, .int (nI lb))]) hx hb dX3_areSame_16 rfl hl (by decide) rfl (fun ls hl => ?_)
    refine lv_iconst (v := nI 0) hx hb dX3_areSame_17 (by decide) ?_
    refine lv_istore (lv' := [(5, .int (nI 0)), (3, .long 0), (0, .ref hm), (1, .int (nI la)), (2, .int (nI lb))]) hx hb dX3_areSame_18 hl (by decide) rfl (fun ls hl => ?_)
    exact loop 65 0 0 (by omega) ((if_pos c0).symm) (fun w hw => absurd hw (Nat.not_lt_zero _)) (by omega) ls (lv_sub hl [0, 1, 2, 3, 4] rfl)
set_option maxHeartbeats 4000000 in
set_option maxRecDepth 100000 in
/-- the first literal with the same words -/
theorem c_X3_firstOf (lit : Nat) (h1 : lit / 2 < 401) : Met l yX3_firstOf wsX3_firstOf { frames := 1, cells := 0, slots := 0, locals := 25 } (rd_P D [(cI, .int), (cJ, .long)] (mW hm q0 q1 q2 q3 q4 q5 q6 q7 q8 q9 cI cJ th nd fs ft mi ml fl gS gX gT gC gO fD gE sp fa) [.ref hm, .int (nI lit)]) (k2_QcV (.int (nI (fmF ft lit lit 0)))) 0 0 (fun _ => False) := by
  refine Met.ofW (cc := cX3_firstOf) (maxL := 3) (ret := (some .int)) (by decide) rfl ?_
  intro p e s m args below meth c s₁ B hml hv
  obtain ⟨rfl, hP, hK⟩ := hv
  have hx := B.exec
  have hb := B.bytes
  have hr := B.returns
  have hts := atoms_spec (ws := wsX3_firstOf) B.pre
  have hown : s.vm.findClass RX3 = some m.cls := findClass_of_methodNamed B.named
  have hlocks := B.notSynchronized
  have hl := lv_entry ([.ref hm, .int (nI lit)]) (n := 3) (Nat.le_of_ble_eq_true rfl)
  rw [lg_entry_eq]
  generalize (lg_sl ([.ref hm, .int (nI lit)]) ++ List.replicate (3 - (lg_sl ([.ref hm, .int (nI lit)])).length) Slot.unset).toArray = ls at hl ⊢
  have hl : lv_has ls 3 [(0, .ref hm), (1, .int (nI lit))] := hl
  have hP : va_P D vwCl [(hm, .inr (3, [.int th, .int (nI nd), .ref q0, .ref q1, .int (nI mi), .int (nI ml), .ref q2, .ref q3, .ref q4, .ref q5, .ref q6, .ref q7, .ref q8, .ref q9, .int (nI sp), .int fa])), (q0, .inl (cI, 401, .inl fs)), (q1, .inl (cJ, 25664, .inr (.inl ft))), (q2, .inl (cI, 4, .inl fl)), (q3, .inl (cI, 8, .inl (fun j => nI (gS j)))), (q4, .inl (cI, 8, .inl (fun j => nI (gX j)))), (q5, .inl (cI, 8, .inl (fun j => nI (gT j)))), (q6, .inl (cI, 2, .inl (fun j => nI (gC j)))), (q7, .inl (cI, 32, .inl (fun j => nI (gO j)))), (q8, .inl (cI, 32, .inl fD)), (q9, .inl (cI, 2, .inl (fun j => nI (gE j))))] s.heap := hP
  refine lv_iconst (v := nI 0) hx hb dX3_firstOf_0 (by decide) ?_
  refine lv_istore_n (lv' := [(2, .int (nI 0)), (0, .ref hm), (1, .int (nI lit))]) hx hb dX3_firstOf_1 rfl hl (by decide) rfl (fun ls hl => ?_)
  have loop : ∀ (n : Nat) (i : Nat), i ≤ lit → fmF ft lit lit 0 = fmF ft lit (lit - i) i → lit - i < n → ∀ ls : Array Slot, lv_has ls 3 [(2, .int (nI i)), (0, .ref hm), (1, .int (nI lit))] → W p l e (headSpec wsX3_firstOf { frames := 1, cells := 0, slots := 0, locals := 25 }).room s m ([.ref hm, .int (nI lit)] : List Value).toArray below meth c s.heap [] 0 0 (MQ below (k2_QcV (.int (nI (fmF ft lit lit 0)))) ([.ref hm, .int (nI lit)] : List Value).toArray s 0 0 (fun _ => False)) (F0 m 2 ls []) := by
    intro n
    induction n with
    | zero => intro i hi hR hM; exact absurd hM (Nat.not_lt_zero _)
    | succ n ih =>
      intro i hi hR hM ls hl
      refine lv_iload_n hx hb dX3_firstOf_2 rfl (lv_at hl 0 rfl) ?_
      refine lv_iload_n hx hb dX3_firstOf_3 rfl (lv_at hl 2 rfl) ?_
      refine lv_icmp_ge (tgt := 24) hx hb dX3_firstOf_4 (by decide) (fun c1 => ?_) (fun c1 => ?_)
      · have c1 : lit ≤ i := (nI_leI (by omega) (by omega)).mp c1
        refine lv_iload_n hx hb dX3_firstOf_24 rfl (lv_at hl 2 rfl) ?_
        have hi2 : lit - i = 0 := by omega
        have hi3 : lit = i := by omega
        exact rd_i hx hb hr hlocks dX3_firstOf_25 (by rw [hR, hi2]; exact congrArg nI hi3)
      · have c1 : ¬ (lit ≤ i) := fun h => c1 ((nI_leI (by omega) (by omega)).mpr h)
        obtain ⟨k, hk⟩ : ∃ k, lit - i = k + 1 := ⟨lit - i - 1, by omega⟩
        refine lv_aload_n hx hb dX3_firstOf_7 rfl (lv_at hl 1 rfl) ?_
        refine lv_iload_n hx hb dX3_firstOf_8 rfl (lv_at hl 0 rfl) ?_
        refine lv_iload_n hx hb dX3_firstOf_9 rfl (lv_at hl 2 rfl) ?_
        refine rd_V (As := [.int (nI i), .int (nI lit)]) (rest := []) ⟨hx, hb, hml, hown, hts⟩ (c_X3_areSame l D cI cJ hm q0 q1 q2 q3 q4 q5 q6 q7 q8 q9 th nd fs ft mi ml fl gS gX gT gC gO fD gE sp fa i lit (by omega) h1) (cwV 2 hts gX3_firstOf_X3_areSame rfl rfl rfl (by decide +kernel) ⟨Nat.le_of_ble_eq_true rfl, Nat.le_of_ble_eq_true rfl⟩) (rd_pv (ci := 3) (q0 := 0) hK hP rfl rfl) rfl hl.1 rfl (Nat.le_of_ble_eq_true rfl) dX3_firstOf_10 ⟨Nat.zero_le _, Nat.zero_le _⟩ ?_
        refine lv_if_eq (tgt := 18) hx hb dX3_firstOf_13 (by decide) (fun c2 => ?_) (fun c2 => ?_)
        · have c2 := zI_eq0.mp c2
          refine lv_iinc (v := nI (i + 1)) (lv' := [(2, .int (nI (i + 1))), (0, .ref hm), (1, .int (nI lit))]) hx hb dX3_firstOf_18 hl (k := 0) rfl (nI_add i 1) (by decide) rfl (fun ls hl => ?_)
          refine lv_goto (tgt := 2) hx hb dX3_firstOf_21 (by decide) ?_
          exact ih (i + 1) (by omega) (by rw [hR, hk, show lit - (i + 1) = k by omega]; simp [fmF, c2]) (by omega) ls (lv_sub hl [0, 1, 2] rfl)
        · have c2 : smF ft i lit = true := by simpa using fun h => c2 (zI_eq0.mpr h)
          refine lv_iload_n hx hb dX3_firstOf_16 rfl (lv_at hl 0 rfl) ?_
          exact rd_i hx hb hr hlocks dX3_firstOf_17 (by rw [hR, hk]; simp [fmF, c2])
  exact loop (lit - 0 + 1) 0 (by omega) (rfl) (by omega) ls (lv_sub hl [0, 1, 2] rfl)
set_option maxHeartbeats 4000000 in
set_option maxRecDepth 100000 in
/-- whether no lesser node is the same -/
theorem c_X3_isLeast (nn : Nat) (h1 : nn < 401) : Met l yX3_isLeast wsX3_isLeast { frames := 1, cells := 0, slots := 0, locals := 25 } (rd_P D [(cI, .int), (cJ, .long)] (mW hm q0 q1 q2 q3 q4 q5 q6 q7 q8 q9 cI cJ th nd fs ft mi ml fl gS gX gT gC gO fD gE sp fa) [.ref hm, .int (nI nn)]) (k2_QcV (.int (zI (lsF ft nn)))) 0 0 (fun _ => False) := by
  refine Met.ofW (cc := cX3_isLeast) (maxL := 3) (ret := (some .boolean)) (by decide) rfl ?_
  intro p e s m args below meth c s₁ B hml hv
  obtain ⟨rfl, hP, hK⟩ := hv
  have hx := B.exec
  have hb := B.bytes
  have hr := B.returns
  have hts := atoms_spec (ws := wsX3_isLeast) B.pre
  have hown : s.vm.findClass RX3 = some m.cls := findClass_of_methodNamed B.named
  have hlocks := B.notSynchronized
  have hl := lv_entry ([.ref hm, .int (nI nn)]) (n := 3) (Nat.le_of_ble_eq_true rfl)
  rw [lg_entry_eq]
  generalize (lg_sl ([.ref hm, .int (nI nn)]) ++ List.replicate (3 - (lg_sl ([.ref hm, .int (nI nn)])).length) Slot.unset).toArray = ls at hl ⊢
  have hl : lv_has ls 3 [(0, .ref hm), (1, .int (nI nn))] := hl
  have hP : va_P D vwCl [(hm, .inr (3, [.int th, .int (nI nd), .ref q0, .ref q1, .int (nI mi), .int (nI ml), .ref q2, .ref q3, .ref q4, .ref q5, .ref q6, .ref q7, .ref q8, .ref q9, .int (nI sp), .int fa])), (q0, .inl (cI, 401, .inl fs)), (q1, .inl (cJ, 25664, .inr (.inl ft))), (q2, .inl (cI, 4, .inl fl)), (q3, .inl (cI, 8, .inl (fun j => nI (gS j)))), (q4, .inl (cI, 8, .inl (fun j => nI (gX j)))), (q5, .inl (cI, 8, .inl (fun j => nI (gT j)))), (q6, .inl (cI, 2, .inl (fun j => nI (gC j)))), (q7, .inl (cI, 32, .inl (fun j => nI (gO j)))), (q8, .inl (cI, 32, .inl fD)), (q9, .inl (cI, 2, .inl (fun j => nI (gE j))))] s.heap := hP
  refine lv_iconst (v := nI 0) hx hb dX3_isLeast_0 (by decide) ?_
  refine lv_istore_n (lv' := [(2, .int (nI 0)), (0, .ref hm), (1, .int (nI nn))]) hx hb dX3_isLeast_1 rfl hl (by decide) rfl (fun ls hl => ?_)
  have loop : ∀ (n : Nat) (i : Nat), i ≤ nn → (∀ m, m < i → smF ft (2 * m) (2 * nn) = false ∧ smF ft (2 * m + 1) (2 * nn) = false) → nn - i < n → ∀ ls : Array Slot, lv_has ls 3 [(2, .int (nI i)), (0, .ref hm), (1, .int (nI nn))] → W p l e (headSpec wsX3_isLeast { frames := 1, cells := 0, slots := 0, locals := 25 }).room s m ([.ref hm, .int (nI nn)] : List Value).toArray below meth c s.heap [] 0 0 (MQ below (k2_QcV (.int (zI (lsF ft nn)))) ([.ref hm, .int (nI nn)] : List Value).toArray s 0 0 (fun _ => False)) (F0 m 2 ls []) := by
    intro n
    induction n with
    | zero => intro i hi hI hM; exact absurd hM (Nat.not_lt_zero _)
    | succ n ih =>
      intro i hi hI hM ls hl
      refine lv_iload_n hx hb dX3_isLeast_2 rfl (lv_at hl 0 rfl) ?_
      refine lv_iload_n hx hb dX3_isLeast_3 rfl (lv_at hl 2 rfl) ?_
      refine lv_icmp_ge (tgt := 43) hx hb dX3_isLeast_4 (by decide) (fun c1 => ?_) (fun c1 => ?_)
      · have c1 : nn ≤ i := (nI_leI (by omega) (by omega)).mp c1
        refine lv_iconst (v := nI 1) hx hb dX3_isLeast_43 (by decide) ?_
        exact rd_z hx hb hr hlocks dX3_isLeast_44 (by rw [show lsF ft nn = true from decide_eq_true (fun m hm9 => hI m (by omega))]; rfl) (zI_01 _)
      · have c1 : ¬ (nn ≤ i) := fun h => c1 ((nI_leI (by omega) (by omega)).mpr h)
        refine lv_aload_n hx hb dX3_isLeast_7 rfl (lv_at hl 1 rfl) ?_
        refine lv_iconst (v := nI 2) hx hb dX3_isLeast_8 (by decide) ?_
        refine lv_iload_n hx hb dX3_isLeast_9 rfl (lv_at hl 0 rfl) ?_
        refine lv_imul hx hb dX3_isLeast_10 ?_
        refine tp_i (show (nI 2) * (nI i) = nI (2 * i) from pk_mul _ _) ?_
        refine lv_iconst (v := nI 2) hx hb dX3_isLeast_11 (by decide) ?_
        refine lv_iload_n hx hb dX3_isLeast_12 rfl (lv_at hl 2 rfl) ?_
        refine lv_imul hx hb dX3_isLeast_13 ?_
        refine tp_i (show (nI 2) * (nI nn) = nI (2 * nn) from pk_mul _ _) ?_
        refine rd_V (As := [.int (nI (2 * i)), .int (nI (2 * nn))]) (rest := []) ⟨hx, hb, hml, hown, hts⟩ (c_X3_areSame l D cI cJ hm q0 q1 q2 q3 q4 q5 q6 q7 q8 q9 th nd fs ft mi ml fl gS gX gT gC gO fD gE sp fa (2 * i) (2 * nn) (by omega) (by omega)) (cwV 2 hts gX3_isLeast_X3_areSame rfl rfl rfl (by decide +kernel) ⟨Nat.le_of_ble_eq_true rfl, Nat.le_of_ble_eq_true rfl⟩) (rd_pv (ci := 3) (q0 := 0) hK hP rfl rfl) rfl hl.1 rfl (Nat.le_of_ble_eq_true rfl) dX3_isLeast_14 ⟨Nat.zero_le _, Nat.zero_le _⟩ ?_
        refine lv_if_ne (tgt := 35) hx hb dX3_isLeast_17 (by decide) (fun c2 => ?_) (fun c2 => ?_)
        · have c2 : smF ft (2 * i) (2 * nn) = true := by simpa using fun h => c2 (zI_eq0.mpr h)
          refine lv_iconst (v := nI 0) hx hb dX3_isLeast_35 (by decide) ?_
          exact rd_z hx hb hr hlocks dX3_isLeast_36 (by rw [show lsF ft nn = false from decide_eq_false (fun h => by have := (h i (by omega)).1; rw [c2] at this; exact absurd this (by decide))]; rfl) (zI_01 _)
        · have c2 := zI_eq0.mp c2
          refine lv_aload_n hx hb dX3_isLeast_20 rfl (lv_at hl 1 rfl) ?_
          refine lv_iconst (v := nI 2) hx hb dX3_isLeast_21 (by decide) ?_
          refine lv_iload_n hx hb dX3_isLeast_22 rfl (lv_at hl 0 rfl) ?_
          refine lv_imul hx hb dX3_isLeast_23 ?_
          refine tp_i (show (nI 2) * (nI i) = nI (2 * i) from pk_mul _ _) ?_
          refine lv_iconst (v := nI 1) hx hb dX3_isLeast_24 (by decide) ?_
          refine lv_iadd hx hb dX3_isLeast_25 ?_
          refine tp_i (show (nI (2 * i)) + (nI 1) = nI (2 * i + 1) from nI_add _ _) ?_
          refine lv_iconst (v := nI 2) hx hb dX3_isLeast_26 (by decide) ?_
          refine lv_iload_n hx hb dX3_isLeast_27 rfl (lv_at hl 2 rfl) ?_
          refine lv_imul hx hb dX3_isLeast_28 ?_
          refine tp_i (show (nI 2) * (nI nn) = nI (2 * nn) from pk_mul _ _) ?_
          refine rd_V (As := [.int (nI (2 * i + 1)), .int (nI (2 * nn))]) (rest := []) ⟨hx, hb, hml, hown, hts⟩ (c_X3_areSame l D cI cJ hm q0 q1 q2 q3 q4 q5 q6 q7 q8 q9 th nd fs ft mi ml fl gS gX gT gC gO fD gE sp fa (2 * i + 1) (2 * nn) (by omega) (by omega)) (cwV 2 hts gX3_isLeast_X3_areSame rfl rfl rfl (by decide +kernel) ⟨Nat.le_of_ble_eq_true rfl, Nat.le_of_ble_eq_true rfl⟩) (rd_pv (ci := 3) (q0 := 0) hK hP rfl rfl) rfl hl.1 rfl (Nat.le_of_ble_eq_true rfl) dX3_isLeast_29 ⟨Nat.zero_le _, Nat.zero_le _⟩ ?_
          refine lv_if_eq (tgt := 37) hx hb dX3_isLeast_32 (by decide) (fun c3 => ?_) (fun c3 => ?_)
          · have c3 := zI_eq0.mp c3
            refine lv_iinc (v := nI (i + 1)) (lv' := [(2, .int (nI (i + 1))), (0, .ref hm), (1, .int (nI nn))]) hx hb dX3_isLeast_37 hl (k := 0) rfl (nI_add i 1) (by decide) rfl (fun ls hl => ?_)
            refine lv_goto (tgt := 2) hx hb dX3_isLeast_40 (by decide) ?_
            exact ih (i + 1) (by omega) (fun m hm9 => if h : m = i then h ▸ ⟨c2, c3⟩ else hI m (by omega)) (by omega) ls (lv_sub hl [0, 1, 2] rfl)
          · have c3 : smF ft (2 * i + 1) (2 * nn) = true := by simpa using fun h => c3 (zI_eq0.mpr h)
            refine lv_iconst (v := nI 0) hx hb dX3_isLeast_35 (by decide) ?_
            exact rd_z hx hb hr hlocks dX3_isLeast_36 (by rw [show lsF ft nn = false from decide_eq_false (fun h => by have := (h i (by omega)).2; rw [c3] at this; exact absurd this (by decide))]; rfl) (zI_01 _)
  exact loop (nn - 0 + 1) 0 (by omega) (fun m hm9 => absurd hm9 (Nat.not_lt_zero _)) (by omega) ls (lv_sub hl [0, 1, 2] rfl)
set_option maxHeartbeats 4000000 in
set_option maxRecDepth 100000 in
/-- how many outputs both sides have -/
theorem c_X3_both (hc0 : gC 0 ≤ 16) (hc1 : gC 1 ≤ 16) : Met l yX3_both wsX3_both { frames := 0, cells := 0, slots := 0, locals := 0 } (rd_P D [(cI, .int), (cJ, .long)] (mW hm q0 q1 q2 q3 q4 q5 q6 q7 q8 q9 cI cJ th nd fs ft mi ml fl gS gX gT gC gO fD gE sp fa) [.ref hm]) (k2_QcV (.int (nI (min (gC 0) (gC 1))))) 0 0 (fun _ => False) := by
  refine Met.ofW (cc := cX3_both) (maxL := 1) (ret := (some .int)) (by decide) rfl ?_
  intro p e s m args below meth c s₁ B hml hv
  obtain ⟨rfl, hP, hK⟩ := hv
  have hx := B.exec
  have hb := B.bytes
  have hr := B.returns
  have hts := atoms_spec (ws := wsX3_both) B.pre
  have hown : s.vm.findClass RX3 = some m.cls := findClass_of_methodNamed B.named
  have hlocks := B.notSynchronized
  have hl := lv_entry ([.ref hm]) (n := 1) (Nat.le_of_ble_eq_true rfl)
  rw [lg_entry_eq]
  generalize (lg_sl ([.ref hm]) ++ List.replicate (1 - (lg_sl ([.ref hm])).length) Slot.unset).toArray = ls at hl ⊢
  have hl : lv_has ls 1 [(0, .ref hm)] := hl
  have hP : va_P D vwCl [(hm, .inr (3, [.int th, .int (nI nd), .ref q0, .ref q1, .int (nI mi), .int (nI ml), .ref q2, .ref q3, .ref q4, .ref q5, .ref q6, .ref q7, .ref q8, .ref q9, .int (nI sp), .int fa])), (q0, .inl (cI, 401, .inl fs)), (q1, .inl (cJ, 25664, .inr (.inl ft))), (q2, .inl (cI, 4, .inl fl)), (q3, .inl (cI, 8, .inl (fun j => nI (gS j)))), (q4, .inl (cI, 8, .inl (fun j => nI (gX j)))), (q5, .inl (cI, 8, .inl (fun j => nI (gT j)))), (q6, .inl (cI, 2, .inl (fun j => nI (gC j)))), (q7, .inl (cI, 32, .inl (fun j => nI (gO j)))), (q8, .inl (cI, 32, .inl fD)), (q9, .inl (cI, 2, .inl (fun j => nI (gE j))))] s.heap := hP
  have hin3 : ∀ w ∈ wsX30, w ∈ wsX3_both := by decide +kernel
  have kf29 := hts (.fieldLink RX3 29 "SweepEqualModel" "outputCounts" "[I") (by decide +kernel)
  refine lv_aload_n hx hb dX3_both_0 rfl (lv_at hl 0 rfl) ?_
  refine va_get (D := D) (ci := 3) (v := .ref q6) (C := RX3) (T := TX3) (N := 16) hx hb hts hin3 hown hK hP 0 rfl rfl 10 (by decide) kf29 (fun _ h9 => h9) rfl dX3_both_1 ?_
  refine lv_iconst (v := nI 0) hx hb dX3_both_4 (by decide) ?_
  refine va_iald hx hb hK hP 7 0 rfl rfl (vp_in_nI (by omega) (by omega)) dX3_both_5 ?_
  refine tp_i (show (fun j => nI (gC j)) (nI 0).toNatClampNeg = nI (gC 0) from congrArg (fun j => nI (gC j)) (nI_clamp (by omega))) ?_
  refine lv_aload_n hx hb dX3_both_6 rfl (lv_at hl 0 rfl) ?_
  refine va_get (D := D) (ci := 3) (v := .ref q6) (C := RX3) (T := TX3) (N := 16) hx hb hts hin3 hown hK hP 0 rfl rfl 10 (by decide) kf29 (fun _ h9 => h9) rfl dX3_both_7 ?_
  refine lv_iconst (v := nI 1) hx hb dX3_both_10 (by decide) ?_
  refine va_iald hx hb hK hP 7 0 rfl rfl (vp_in_nI (by omega) (by omega)) dX3_both_11 ?_
  refine tp_i (show (fun j => nI (gC j)) (nI 1).toNatClampNeg = nI (gC 1) from congrArg (fun j => nI (gC j)) (nI_clamp (by omega))) ?_
  refine lv_icmp_ge (tgt := 24) hx hb dX3_both_12 (by decide) (fun c1 => ?_) (fun c1 => ?_)
  · have c1 : gC 1 ≤ gC 0 := (nI_leI (by omega) (by omega)).mp c1
    refine lv_aload_n hx hb dX3_both_24 rfl (lv_at hl 0 rfl) ?_
    refine va_get (D := D) (ci := 3) (v := .ref q6) (C := RX3) (T := TX3) (N := 16) hx hb hts hin3 hown hK hP 0 rfl rfl 10 (by decide) kf29 (fun _ h9 => h9) rfl dX3_both_25 ?_
    refine lv_iconst (v := nI 1) hx hb dX3_both_28 (by decide) ?_
    refine va_iald hx hb hK hP 7 0 rfl rfl (vp_in_nI (by omega) (by omega)) dX3_both_29 ?_
    refine tp_i (show (fun j => nI (gC j)) (nI 1).toNatClampNeg = nI (gC 1) from congrArg (fun j => nI (gC j)) (nI_clamp (by omega))) ?_
    exact rd_i hx hb hr hlocks dX3_both_30 (by rw [Nat.min_eq_right (by omega)])
  · have c1 : ¬ (gC 1 ≤ gC 0) := fun h => c1 ((nI_leI (by omega) (by omega)).mpr h)
    refine lv_aload_n hx hb dX3_both_15 rfl (lv_at hl 0 rfl) ?_
    refine va_get (D := D) (ci := 3) (v := .ref q6) (C := RX3) (T := TX3) (N := 16) hx hb hts hin3 hown hK hP 0 rfl rfl 10 (by decide) kf29 (fun _ h9 => h9) rfl dX3_both_16 ?_
    refine lv_iconst (v := nI 0) hx hb dX3_both_19 (by decide) ?_
    refine va_iald hx hb hK hP 7 0 rfl rfl (vp_in_nI (by omega) (by omega)) dX3_both_20 ?_
    refine tp_i (show (fun j => nI (gC j)) (nI 0).toNatClampNeg = nI (gC 0) from congrArg (fun j => nI (gC j)) (nI_clamp (by omega))) ?_
    refine lv_goto (tgt := 30) hx hb dX3_both_21 (by decide) ?_
    exact rd_i hx hb hr hlocks dX3_both_30 (by rw [Nat.min_eq_left (by omega)])
set_option maxHeartbeats 4000000 in
set_option maxRecDepth 100000 in
/-- whether a thing is apart -/
theorem c_X3_isApart (t : Nat) (ht : t ≤ 300) (hml9 : ml ≤ 4) (hc0 : gC 0 ≤ 16) (hc1 : gC 1 ≤ 16) (hS9 : ∀ j, j < 8 → gS j < 2) (hO : ∀ j, j < min (gC 0) (gC 1) → gO j < 2 * nd ∧ gO (16 + j) < 2 * nd) (hX : ∀ j, j < ml → gX j < 2 * nd ∧ gX (4 + j) < 2 * nd) (hnd : nd ≤ 400) : Met l yX3_isApart wsX3_isApart { frames := 1, cells := 0, slots := 0, locals := 25 } (rd_P D [(cI, .int), (cJ, .long)] (mW hm q0 q1 q2 q3 q4 q5 q6 q7 q8 q9 cI cJ th nd fs ft mi ml fl gS gX gT gC gO fD gE sp fa) [.ref hm, .int (nI t)]) (k2_QcV (.int (zI (apF ft gO gX gS gC ml t)))) 0 0 (fun _ => False) := by
  refine Met.ofW (cc := cX3_isApart) (maxL := 2) (ret := (some .boolean)) (by decide) rfl ?_
  intro p e s m args below meth c s₁ B hml hv
  obtain ⟨rfl, hP, hK⟩ := hv
  have hx := B.exec
  have hb := B.bytes
  have hr := B.returns
  have hts := atoms_spec (ws := wsX3_isApart) B.pre
  have hown : s.vm.findClass RX3 = some m.cls := findClass_of_methodNamed B.named
  have hlocks := B.notSynchronized
  have hl := lv_entry ([.ref hm, .int (nI t)]) (n := 2) (Nat.le_of_ble_eq_true rfl)
  rw [lg_entry_eq]
  generalize (lg_sl ([.ref hm, .int (nI t)]) ++ List.replicate (2 - (lg_sl ([.ref hm, .int (nI t)])).length) Slot.unset).toArray = ls at hl ⊢
  have hl : lv_has ls 2 [(0, .ref hm), (1, .int (nI t))] := hl
  have hP : va_P D vwCl [(hm, .inr (3, [.int th, .int (nI nd), .ref q0, .ref q1, .int (nI mi), .int (nI ml), .ref q2, .ref q3, .ref q4, .ref q5, .ref q6, .ref q7, .ref q8, .ref q9, .int (nI sp), .int fa])), (q0, .inl (cI, 401, .inl fs)), (q1, .inl (cJ, 25664, .inr (.inl ft))), (q2, .inl (cI, 4, .inl fl)), (q3, .inl (cI, 8, .inl (fun j => nI (gS j)))), (q4, .inl (cI, 8, .inl (fun j => nI (gX j)))), (q5, .inl (cI, 8, .inl (fun j => nI (gT j)))), (q6, .inl (cI, 2, .inl (fun j => nI (gC j)))), (q7, .inl (cI, 32, .inl (fun j => nI (gO j)))), (q8, .inl (cI, 32, .inl fD)), (q9, .inl (cI, 2, .inl (fun j => nI (gE j))))] s.heap := hP
  have hin3 : ∀ w ∈ wsX30, w ∈ wsX3_isApart := by decide +kernel
  have kf32 := hts (.fieldLink RX3 32 "SweepEqualModel" "outputs" "[I") (by decide +kernel)
  have kf54 := hts (.fieldLink RX3 54 "SweepEqualModel" "latches" "I") (by decide +kernel)
  have kf23 := hts (.fieldLink RX3 23 "SweepEqualModel" "nexts" "[I") (by decide +kernel)
  have kf20 := hts (.fieldLink RX3 20 "SweepEqualModel" "starts" "[I") (by decide +kernel)
  have kf29 := hts (.fieldLink RX3 29 "SweepEqualModel" "outputCounts" "[I") (by decide +kernel)
  refine lv_iload_n hx hb dX3_isApart_0 rfl (lv_at hl 1 rfl) ?_
  refine lv_bipush (v := nI 100) hx hb dX3_isApart_1 (by decide) ?_
  refine lv_icmp_ge (tgt := 42) hx hb dX3_isApart_3 (by decide) (fun c1 => ?_) (fun c1 => ?_)
  · have c1 : 100 ≤ t := (nI_leI (by omega) (by omega)).mp c1
    refine lv_iload_n hx hb dX3_isApart_42 rfl (lv_at hl 1 rfl) ?_
    refine lv_sipush (v := nI 200) hx hb dX3_isApart_43 (by decide) ?_
    refine lv_icmp_ge (tgt := 91) hx hb dX3_isApart_46 (by decide) (fun c2 => ?_) (fun c2 => ?_)
    · have c2 : 200 ≤ t := (nI_leI (by omega) (by omega)).mp c2
      refine lv_iload_n hx hb dX3_isApart_91 rfl (lv_at hl 1 rfl) ?_
      refine lv_sipush (v := nI 300) hx hb dX3_isApart_92 (by decide) ?_
      refine lv_icmp_ge (tgt := 139) hx hb dX3_isApart_95 (by decide) (fun c3 => ?_) (fun c3 => ?_)
      · have c3 : 300 ≤ t := (nI_leI (by omega) (by omega)).mp c3
        refine lv_aload_n hx hb dX3_isApart_139 rfl (lv_at hl 0 rfl) ?_
        refine va_get (D := D) (ci := 3) (v := .ref q6) (C := RX3) (T := TX3) (N := 16) hx hb hts hin3 hown hK hP 0 rfl rfl 10 (by decide) kf29 (fun _ h9 => h9) rfl dX3_isApart_140 ?_
        refine lv_iconst (v := nI 0) hx hb dX3_isApart_143 (by decide) ?_
        refine va_iald hx hb hK hP 7 0 rfl rfl (vp_in_nI (by omega) (by omega)) dX3_isApart_144 ?_
        refine tp_i (show (fun j => nI (gC j)) (nI 0).toNatClampNeg = nI (gC 0) from congrArg (fun j => nI (gC j)) (nI_clamp (by omega))) ?_
        refine lv_aload_n hx hb dX3_isApart_145 rfl (lv_at hl 0 rfl) ?_
        refine va_get (D := D) (ci := 3) (v := .ref q6) (C := RX3) (T := TX3) (N := 16) hx hb hts hin3 hown hK hP 0 rfl rfl 10 (by decide) kf29 (fun _ h9 => h9) rfl dX3_isApart_146 ?_
        refine lv_iconst (v := nI 1) hx hb dX3_isApart_149 (by decide) ?_
        refine va_iald hx hb hK hP 7 0 rfl rfl (vp_in_nI (by omega) (by omega)) dX3_isApart_150 ?_
        refine tp_i (show (fun j => nI (gC j)) (nI 1).toNatClampNeg = nI (gC 1) from congrArg (fun j => nI (gC j)) (nI_clamp (by omega))) ?_
        refine lv_icmp_eq (tgt := 158) hx hb dX3_isApart_151 (by decide) (fun c4 => ?_) (fun c4 => ?_)
        · have c4 : gC 0 = gC 1 := (nI_eq (by omega) (by omega)).mp c4
          refine lv_iconst (v := nI 0) hx hb dX3_isApart_158 (by decide) ?_
          exact rd_z hx hb hr hlocks dX3_isApart_159 (by rw [show apF ft gO gX gS gC ml t = false from by unfold apF; rw [if_neg (by omega), if_neg (by omega), if_neg (by omega)]; simp [c4]]; rfl) (zI_01 _)
        · have c4 : ¬ gC 0 = gC 1 := fun h => c4 ((nI_eq (by omega) (by omega)).mpr h)
          refine lv_iconst (v := nI 1) hx hb dX3_isApart_154 (by decide) ?_
          refine lv_goto (tgt := 159) hx hb dX3_isApart_155 (by decide) ?_
          exact rd_z hx hb hr hlocks dX3_isApart_159 (by rw [show apF ft gO gX gS gC ml t = true from by unfold apF; rw [if_neg (by omega), if_neg (by omega), if_neg (by omega)]; simp [c4]]; rfl) (zI_01 _)
      · have c3 : ¬ (300 ≤ t) := fun h => c3 ((nI_leI (by omega) (by omega)).mpr h)
        refine lv_iload_n hx hb dX3_isApart_98 rfl (lv_at hl 1 rfl) ?_
        refine lv_sipush (v := nI 200) hx hb dX3_isApart_99 (by decide) ?_
        refine lv_isub hx hb dX3_isApart_102 ?_
        refine tp_i (show (nI t) - (nI 200) = nI (t - 200) from pk_sub (by omega)) ?_
        refine lv_aload_n hx hb dX3_isApart_103 rfl (lv_at hl 0 rfl) ?_
        refine va_get (D := D) (ci := 3) (v := .int (nI ml)) (C := RX3) (T := TX3) (N := 16) hx hb hts hin3 hown hK hP 0 rfl rfl 5 (by decide) kf54 (fun _ h9 => h9) rfl dX3_isApart_104 ?_
        refine lv_icmp_ge (tgt := 137) hx hb dX3_isApart_107 (by decide) (fun c4 => ?_) (fun c4 => ?_)
        · have c4 : ml ≤ t - 200 := (nI_leI (by omega) (by omega)).mp c4
          refine lv_iconst (v := nI 0) hx hb dX3_isApart_137 (by decide) ?_
          exact rd_z hx hb hr hlocks dX3_isApart_138 (by rw [show apF ft gO gX gS gC ml t = false from by unfold apF; rw [if_neg (by omega), if_neg (by omega), if_pos (by omega), decide_eq_false (by omega)]; rfl]; rfl) (zI_01 _)
        · have c4 : ¬ (ml ≤ t - 200) := fun h => c4 ((nI_leI (by omega) (by omega)).mpr h)
          have hs1 := hS9 (t - 200) (by omega)
          have hs2 := hS9 (t - 196) (by omega)
          refine lv_aload_n hx hb dX3_isApart_110 rfl (lv_at hl 0 rfl) ?_
          refine va_get (D := D) (ci := 3) (v := .ref q3) (C := RX3) (T := TX3) (N := 16) hx hb hts hin3 hown hK hP 0 rfl rfl 7 (by decide) kf20 (fun _ h9 => h9) rfl dX3_isApart_111 ?_
          refine lv_iload_n hx hb dX3_isApart_114 rfl (lv_at hl 1 rfl) ?_
          refine lv_sipush (v := nI 200) hx hb dX3_isApart_115 (by decide) ?_
          refine lv_isub hx hb dX3_isApart_118 ?_
          refine tp_i (show (nI t) - (nI 200) = nI (t - 200) from pk_sub (by omega)) ?_
          refine va_iald hx hb hK hP 4 0 rfl rfl (vp_in_nI (by omega) (by omega)) dX3_isApart_119 ?_
          refine tp_i (show (fun j => nI (gS j)) (nI (t - 200)).toNatClampNeg = nI (gS (t - 200)) from congrArg (fun j => nI (gS j)) (nI_clamp (by omega))) ?_
          refine lv_aload_n hx hb dX3_isApart_120 rfl (lv_at hl 0 rfl) ?_
          refine va_get (D := D) (ci := 3) (v := .ref q3) (C := RX3) (T := TX3) (N := 16) hx hb hts hin3 hown hK hP 0 rfl rfl 7 (by decide) kf20 (fun _ h9 => h9) rfl dX3_isApart_121 ?_
          refine lv_iload_n hx hb dX3_isApart_124 rfl (lv_at hl 1 rfl) ?_
          refine lv_sipush (v := nI 196) hx hb dX3_isApart_125 (by decide) ?_
          refine lv_isub hx hb dX3_isApart_128 ?_
          refine tp_i (show (nI t) - (nI 196) = nI (t - 196) from pk_sub (by omega)) ?_
          refine va_iald hx hb hK hP 4 0 rfl rfl (vp_in_nI (by omega) (by omega)) dX3_isApart_129 ?_
          refine tp_i (show (fun j => nI (gS j)) (nI (t - 196)).toNatClampNeg = nI (gS (t - 196)) from congrArg (fun j => nI (gS j)) (nI_clamp (by omega))) ?_
          refine lv_icmp_eq (tgt := 137) hx hb dX3_isApart_130 (by decide) (fun c5 => ?_) (fun c5 => ?_)
          · have c5 : gS (t - 200) = gS (t - 196) := (nI_eq (by omega) (by omega)).mp c5
            refine lv_iconst (v := nI 0) hx hb dX3_isApart_137 (by decide) ?_
            exact rd_z hx hb hr hlocks dX3_isApart_138 (by rw [show apF ft gO gX gS gC ml t = false from by unfold apF; rw [if_neg (by omega), if_neg (by omega), if_pos (by omega)]; simp [c5]]; rfl) (zI_01 _)
          · have c5 : ¬ gS (t - 200) = gS (t - 196) := fun h => c5 ((nI_eq (by omega) (by omega)).mpr h)
            refine lv_iconst (v := nI 1) hx hb dX3_isApart_133 (by decide) ?_
            refine lv_goto (tgt := 138) hx hb dX3_isApart_134 (by decide) ?_
            exact rd_z hx hb hr hlocks dX3_isApart_138 (by rw [show apF ft gO gX gS gC ml t = true from by unfold apF; rw [if_neg (by omega), if_neg (by omega), if_pos (by omega), decide_eq_true (show t - 200 < ml by omega), decide_eq_false c5]; rfl]; rfl) (zI_01 _)
    · have c2 : ¬ (200 ≤ t) := fun h => c2 ((nI_leI (by omega) (by omega)).mpr h)
      refine lv_iload_n hx hb dX3_isApart_49 rfl (lv_at hl 1 rfl) ?_
      refine lv_bipush (v := nI 100) hx hb dX3_isApart_50 (by decide) ?_
      refine lv_isub hx hb dX3_isApart_52 ?_
      refine tp_i (show (nI t) - (nI 100) = nI (t - 100) from pk_sub (by omega)) ?_
      refine lv_aload_n hx hb dX3_isApart_53 rfl (lv_at hl 0 rfl) ?_
      refine va_get (D := D) (ci := 3) (v := .int (nI ml)) (C := RX3) (T := TX3) (N := 16) hx hb hts hin3 hown hK hP 0 rfl rfl 5 (by decide) kf54 (fun _ h9 => h9) rfl dX3_isApart_54 ?_
      refine lv_icmp_ge (tgt := 89) hx hb dX3_isApart_57 (by decide) (fun c3 => ?_) (fun c3 => ?_)
      · have c3 : ml ≤ t - 100 := (nI_leI (by omega) (by omega)).mp c3
        refine lv_iconst (v := nI 0) hx hb dX3_isApart_89 (by decide) ?_
        exact rd_z hx hb hr hlocks dX3_isApart_90 (by rw [show apF ft gO gX gS gC ml t = false from by unfold apF; rw [if_neg (by omega), if_pos (by omega), decide_eq_false (by omega)]; rfl]; rfl) (zI_01 _)
      · have c3 : ¬ (ml ≤ t - 100) := fun h => c3 ((nI_leI (by omega) (by omega)).mpr h)
        have hx9 := hX (t - 100) (by omega)
        rw [show 4 + (t - 100) = t - 96 by omega] at hx9
        refine lv_aload_n hx hb dX3_isApart_60 rfl (lv_at hl 0 rfl) ?_
        refine lv_aload_n hx hb dX3_isApart_61 rfl (lv_at hl 0 rfl) ?_
        refine va_get (D := D) (ci := 3) (v := .ref q4) (C := RX3) (T := TX3) (N := 16) hx hb hts hin3 hown hK hP 0 rfl rfl 8 (by decide) kf23 (fun _ h9 => h9) rfl dX3_isApart_62 ?_
        refine lv_iload_n hx hb dX3_isApart_65 rfl (lv_at hl 1 rfl) ?_
        refine lv_bipush (v := nI 100) hx hb dX3_isApart_66 (by decide) ?_
        refine lv_isub hx hb dX3_isApart_68 ?_
        refine tp_i (show (nI t) - (nI 100) = nI (t - 100) from pk_sub (by omega)) ?_
        refine va_iald hx hb hK hP 5 0 rfl rfl (vp_in_nI (by omega) (by omega)) dX3_isApart_69 ?_
        refine tp_i (show (fun j => nI (gX j)) (nI (t - 100)).toNatClampNeg = nI (gX (t - 100)) from congrArg (fun j => nI (gX j)) (nI_clamp (by omega))) ?_
        refine lv_aload_n hx hb dX3_isApart_70 rfl (lv_at hl 0 rfl) ?_
        refine va_get (D := D) (ci := 3) (v := .ref q4) (C := RX3) (T := TX3) (N := 16) hx hb hts hin3 hown hK hP 0 rfl rfl 8 (by decide) kf23 (fun _ h9 => h9) rfl dX3_isApart_71 ?_
        refine lv_iload_n hx hb dX3_isApart_74 rfl (lv_at hl 1 rfl) ?_
        refine lv_bipush (v := nI 96) hx hb dX3_isApart_75 (by decide) ?_
        refine lv_isub hx hb dX3_isApart_77 ?_
        refine tp_i (show (nI t) - (nI 96) = nI (t - 96) from pk_sub (by omega)) ?_
        refine va_iald hx hb hK hP 5 0 rfl rfl (vp_in_nI (by omega) (by omega)) dX3_isApart_78 ?_
        refine tp_i (show (fun j => nI (gX j)) (nI (t - 96)).toNatClampNeg = nI (gX (t - 96)) from congrArg (fun j => nI (gX j)) (nI_clamp (by omega))) ?_
        refine rd_V (As := [.int (nI (gX (t - 100))), .int (nI (gX (t - 96)))]) (rest := []) ⟨hx, hb, hml, hown, hts⟩ (c_X3_areSame l D cI cJ hm q0 q1 q2 q3 q4 q5 q6 q7 q8 q9 th nd fs ft mi ml fl gS gX gT gC gO fD gE sp fa (gX (t - 100)) (gX (t - 96)) (by omega) (by omega)) (cwV 2 hts gX3_isApart_X3_areSame rfl rfl rfl (by decide +kernel) ⟨Nat.le_of_ble_eq_true rfl, Nat.le_of_ble_eq_true rfl⟩) (rd_pv (ci := 3) (q0 := 0) hK hP rfl rfl) rfl hl.1 rfl (Nat.le_of_ble_eq_true rfl) dX3_isApart_79 ⟨Nat.zero_le _, Nat.zero_le _⟩ ?_
        refine lv_if_ne (tgt := 89) hx hb dX3_isApart_82 (by decide) (fun c4 => ?_) (fun c4 => ?_)
        · have c4 : smF ft (gX (t - 100)) (gX (t - 96)) = true := by simpa using fun h => c4 (zI_eq0.mpr h)
          refine lv_iconst (v := nI 0) hx hb dX3_isApart_89 (by decide) ?_
          exact rd_z hx hb hr hlocks dX3_isApart_90 (by rw [show apF ft gO gX gS gC ml t = false from by unfold apF; rw [if_neg (by omega), if_pos (by omega)]; simp [c4]]; rfl) (zI_01 _)
        · have c4 := zI_eq0.mp c4
          refine lv_iconst (v := nI 1) hx hb dX3_isApart_85 (by decide) ?_
          refine lv_goto (tgt := 90) hx hb dX3_isApart_86 (by decide) ?_
          exact rd_z hx hb hr hlocks dX3_isApart_90 (by rw [show apF ft gO gX gS gC ml t = true from by unfold apF; rw [if_neg (by omega), if_pos (by omega), decide_eq_true (show t - 100 < ml by omega), c4]; rfl]; rfl) (zI_01 _)
  · have c1 : ¬ (100 ≤ t) := fun h => c1 ((nI_leI (by omega) (by omega)).mpr h)
    refine lv_iload_n hx hb dX3_isApart_6 rfl (lv_at hl 1 rfl) ?_
    refine lv_aload_n hx hb dX3_isApart_7 rfl (lv_at hl 0 rfl) ?_
    refine rd_V (As := []) (rest := [.int (nI t)]) ⟨hx, hb, hml, hown, hts⟩ (c_X3_both l D cI cJ hm q0 q1 q2 q3 q4 q5 q6 q7 q8 q9 th nd fs ft mi ml fl gS gX gT gC gO fD gE sp fa hc0 hc1) (cwV 0 hts gX3_isApart_X3_both rfl rfl rfl (by decide +kernel) ⟨Nat.le_of_ble_eq_true rfl, Nat.le_of_ble_eq_true rfl⟩) (rd_pv (ci := 3) (q0 := 0) hK hP rfl rfl) rfl hl.1 rfl (Nat.le_of_ble_eq_true rfl) dX3_isApart_8 ⟨Nat.zero_le _, Nat.zero_le _⟩ ?_
    refine lv_icmp_ge (tgt := 40) hx hb dX3_isApart_11 (by decide) (fun c2 => ?_) (fun c2 => ?_)
    · have c2 : min (gC 0) (gC 1) ≤ t := (nI_leI (by omega) (by omega)).mp c2
      refine lv_iconst (v := nI 0) hx hb dX3_isApart_40 (by decide) ?_
      exact rd_z hx hb hr hlocks dX3_isApart_41 (by rw [show apF ft gO gX gS gC ml t = false from by unfold apF; rw [if_pos (by omega), decide_eq_false (by omega)]; rfl]; rfl) (zI_01 _)
    · have c2 : ¬ (min (gC 0) (gC 1) ≤ t) := fun h => c2 ((nI_leI (by omega) (by omega)).mpr h)
      have hx9 := hO t (by omega)
      refine lv_aload_n hx hb dX3_isApart_14 rfl (lv_at hl 0 rfl) ?_
      refine lv_aload_n hx hb dX3_isApart_15 rfl (lv_at hl 0 rfl) ?_
      refine va_get (D := D) (ci := 3) (v := .ref q7) (C := RX3) (T := TX3) (N := 16) hx hb hts hin3 hown hK hP 0 rfl rfl 11 (by decide) kf32 (fun _ h9 => h9) rfl dX3_isApart_16 ?_
      refine lv_iload_n hx hb dX3_isApart_19 rfl (lv_at hl 1 rfl) ?_
      refine va_iald hx hb hK hP 8 0 rfl rfl (vp_in_nI (by omega) (by omega)) dX3_isApart_20 ?_
      refine tp_i (show (fun j => nI (gO j)) (nI t).toNatClampNeg = nI (gO t) from congrArg (fun j => nI (gO j)) (nI_clamp (by omega))) ?_
      refine lv_aload_n hx hb dX3_isApart_21 rfl (lv_at hl 0 rfl) ?_
      refine va_get (D := D) (ci := 3) (v := .ref q7) (C := RX3) (T := TX3) (N := 16) hx hb hts hin3 hown hK hP 0 rfl rfl 11 (by decide) kf32 (fun _ h9 => h9) rfl dX3_isApart_22 ?_
      refine lv_bipush (v := nI 16) hx hb dX3_isApart_25 (by decide) ?_
      refine lv_iload_n hx hb dX3_isApart_27 rfl (lv_at hl 1 rfl) ?_
      refine lv_iadd hx hb dX3_isApart_28 ?_
      refine tp_i (show (nI 16) + (nI t) = nI (16 + t) from nI_add _ _) ?_
      refine va_iald hx hb hK hP 8 0 rfl rfl (vp_in_nI (by omega) (by omega)) dX3_isApart_29 ?_
      refine tp_i (show (fun j => nI (gO j)) (nI (16 + t)).toNatClampNeg = nI (gO (16 + t)) from congrArg (fun j => nI (gO j)) (nI_clamp (by omega))) ?_
      refine rd_V (As := [.int (nI (gO t)), .int (nI (gO (16 + t)))]) (rest := []) ⟨hx, hb, hml, hown, hts⟩ (c_X3_areSame l D cI cJ hm q0 q1 q2 q3 q4 q5 q6 q7 q8 q9 th nd fs ft mi ml fl gS gX gT gC gO fD gE sp fa (gO t) (gO (16 + t)) (by omega) (by omega)) (cwV 2 hts gX3_isApart_X3_areSame rfl rfl rfl (by decide +kernel) ⟨Nat.le_of_ble_eq_true rfl, Nat.le_of_ble_eq_true rfl⟩) (rd_pv (ci := 3) (q0 := 0) hK hP rfl rfl) rfl hl.1 rfl (Nat.le_of_ble_eq_true rfl) dX3_isApart_30 ⟨Nat.zero_le _, Nat.zero_le _⟩ ?_
      refine lv_if_ne (tgt := 40) hx hb dX3_isApart_33 (by decide) (fun c4 => ?_) (fun c4 => ?_)
      · have c4 : smF ft (gO t) (gO (16 + t)) = true := by simpa using fun h => c4 (zI_eq0.mpr h)
        refine lv_iconst (v := nI 0) hx hb dX3_isApart_40 (by decide) ?_
        exact rd_z hx hb hr hlocks dX3_isApart_41 (by rw [show apF ft gO gX gS gC ml t = false from by unfold apF; rw [if_pos (by omega)]; simp [c4]]; rfl) (zI_01 _)
      · have c4 := zI_eq0.mp c4
        refine lv_iconst (v := nI 1) hx hb dX3_isApart_36 (by decide) ?_
        refine lv_goto (tgt := 41) hx hb dX3_isApart_37 (by decide) ?_
        exact rd_z hx hb hr hlocks dX3_isApart_41 (by rw [show apF ft gO gX gS gC ml t = true from by unfold apF; rw [if_pos (by omega), decide_eq_true (show t < min (gC 0) (gC 1) by omega), c4]; rfl]; rfl) (zI_01 _)
set_option maxHeartbeats 4000000 in
set_option maxRecDepth 100000 in
/-- the assignment of a side -/
theorem c_X3_assignment (sd : Nat) (inp : Int32) (iv : Nat) (hiv : inp &&& nI (2 ^ mi - 1) = nI iv) (hiv2 : iv < 256) (hsd : sd < 2) (hmi : mi ≤ 8) (hml9 : ml ≤ 4) (hT : ∀ j, j < 8 → gT j < 2) : Met l yX3_assignment wsX3_assignment { frames := 0, cells := 0, slots := 0, locals := 0 } (rd_P D [(cI, .int), (cJ, .long)] (mW hm q0 q1 q2 q3 q4 q5 q6 q7 q8 q9 cI cJ th nd fs ft mi ml fl gS gX gT gC gO fD gE sp fa) [.ref hm, .int (nI sd), .int inp]) (k2_QcV (.int (nI (asF iv gT (4 * sd) ml)))) 0 0 (fun _ => False) := by
  refine Met.ofW (cc := cX3_assignment) (maxL := 5) (ret := (some .int)) (by decide) rfl ?_
  intro p e s m args below meth c s₁ B hml hv
  obtain ⟨rfl, hP, hK⟩ := hv
  have hx := B.exec
  have hb := B.bytes
  have hr := B.returns
  have hts := atoms_spec (ws := wsX3_assignment) B.pre
  have hown : s.vm.findClass RX3 = some m.cls := findClass_of_methodNamed B.named
  have hlocks := B.notSynchronized
  have hl := lv_entry ([.ref hm, .int (nI sd), .int inp]) (n := 5) (Nat.le_of_ble_eq_true rfl)
  rw [lg_entry_eq]
  generalize (lg_sl ([.ref hm, .int (nI sd), .int inp]) ++ List.replicate (5 - (lg_sl ([.ref hm, .int (nI sd), .int inp])).length) Slot.unset).toArray = ls at hl ⊢
  have hl : lv_has ls 5 [(0, .ref hm), (1, .int (nI sd)), (2, .int inp)] := hl
  have hP : va_P D vwCl [(hm, .inr (3, [.int th, .int (nI nd), .ref q0, .ref q1, .int (nI mi), .int (nI ml), .ref q2, .ref q3, .ref q4, .ref q5, .ref q6, .ref q7, .ref q8, .ref q9, .int (nI sp), .int fa])), (q0, .inl (cI, 401, .inl fs)), (q1, .inl (cJ, 25664, .inr (.inl ft))), (q2, .inl (cI, 4, .inl fl)), (q3, .inl (cI, 8, .inl (fun j => nI (gS j)))), (q4, .inl (cI, 8, .inl (fun j => nI (gX j)))), (q5, .inl (cI, 8, .inl (fun j => nI (gT j)))), (q6, .inl (cI, 2, .inl (fun j => nI (gC j)))), (q7, .inl (cI, 32, .inl (fun j => nI (gO j)))), (q8, .inl (cI, 32, .inl fD)), (q9, .inl (cI, 2, .inl (fun j => nI (gE j))))] s.heap := hP
  have hin3 : ∀ w ∈ wsX30, w ∈ wsX3_assignment := by decide +kernel
  have kf51 := hts (.fieldLink RX3 51 "SweepEqualModel" "inputs" "I") (by decide +kernel)
  have kf54 := hts (.fieldLink RX3 54 "SweepEqualModel" "latches" "I") (by decide +kernel)
  have kf26 := hts (.fieldLink RX3 26 "SweepEqualModel" "states" "[I") (by decide +kernel)
  refine lv_iload_n hx hb dX3_assignment_0 rfl (lv_at hl 2 rfl) ?_
  refine lv_iconst (v := nI 1) hx hb dX3_assignment_1 (by decide) ?_
  refine lv_aload_n hx hb dX3_assignment_2 rfl (lv_at hl 0 rfl) ?_
  refine va_get (D := D) (ci := 3) (v := .int (nI mi)) (C := RX3) (T := TX3) (N := 16) hx hb hts hin3 hown hK hP 0 rfl rfl 4 (by decide) kf51 (fun _ h9 => h9) rfl dX3_assignment_3 ?_
  refine lv_ishl hx hb dX3_assignment_6 ?_
  refine lv_iconst (v := nI 1) hx hb dX3_assignment_7 (by decide) ?_
  refine lv_isub hx hb dX3_assignment_8 ?_
  refine tp_i (show ((nI 1) <<< ((nI mi) &&& 31)) - (nI 1) = nI (2 ^ mi - 1) from ms_key mi (by omega)) ?_
  refine lv_iand hx hb dX3_assignment_9 ?_
  refine tp_i (show inp &&& (nI (2 ^ mi - 1)) = nI iv from hiv) ?_
  refine lv_istore_n (lv' := [(3, .int (nI iv)), (0, .ref hm), (1, .int (nI sd)), (2, .int inp)]) hx hb dX3_assignment_10 rfl hl (by decide) rfl (fun ls hl => ?_)
  refine lv_iconst (v := nI 0) hx hb dX3_assignment_11 (by decide) ?_
  refine lv_istore (lv' := [(4, .int (nI 0)), (3, .int (nI iv)), (0, .ref hm), (1, .int (nI sd)), (2, .int inp)]) hx hb dX3_assignment_12 hl (by decide) rfl (fun ls hl => ?_)
  have loop : ∀ (n : Nat) (i : Nat), i ≤ ml → ml - i < n → ∀ ls : Array Slot, lv_has ls 5 [(4, .int (nI i)), (3, .int (nI (asF iv gT (4 * sd) i))), (0, .ref hm), (1, .int (nI sd)), (2, .int inp)] → W p l e (headSpec wsX3_assignment { frames := 0, cells := 0, slots := 0, locals := 0 }).room s m ([.ref hm, .int (nI sd), .int inp] : List Value).toArray below meth c s.heap [] 0 0 (MQ below (k2_QcV (.int (nI (asF iv gT (4 * sd) ml)))) ([.ref hm, .int (nI sd), .int inp] : List Value).toArray s 0 0 (fun _ => False)) (F0 m 14 ls []) := by
    intro n
    induction n with
    | zero => intro i hi hM; exact absurd hM (Nat.not_lt_zero _)
    | succ n ih =>
      intro i hi hM ls hl
      refine lv_iload hx hb dX3_assignment_14 (lv_at hl 0 rfl) ?_
      refine lv_aload_n hx hb dX3_assignment_16 rfl (lv_at hl 2 rfl) ?_
      refine va_get (D := D) (ci := 3) (v := .int (nI ml)) (C := RX3) (T := TX3) (N := 16) hx hb hts hin3 hown hK hP 0 rfl rfl 5 (by decide) kf54 (fun _ h9 => h9) rfl dX3_assignment_17 ?_
      refine lv_icmp_ge (tgt := 49) hx hb dX3_assignment_20 (by decide) (fun c1 => ?_) (fun c1 => ?_)
      · have c1 : ml ≤ i := (nI_leI (by omega) (by omega)).mp c1
        refine lv_iload_n hx hb dX3_assignment_49 rfl (lv_at hl 1 rfl) ?_
        have hi2 : i = ml := by omega
        exact rd_i hx hb hr hlocks dX3_assignment_50 (by rw [hi2])
      · have c1 : ¬ (ml ≤ i) := fun h => c1 ((nI_leI (by omega) (by omega)).mpr h)
        have hp : 2 ^ (8 + i) ≤ 2 ^ 12 := Nat.pow_le_pow_right (by omega) (by omega)
        have ht9 := hT (4 * sd + i) (by omega)
        have hp2 : gT (4 * sd + i) * 2 ^ (8 + i) ≤ 1 * 2 ^ 12 := Nat.mul_le_mul (by omega) hp
        refine lv_iload_n hx hb dX3_assignment_23 rfl (lv_at hl 1 rfl) ?_
        refine lv_aload_n hx hb dX3_assignment_24 rfl (lv_at hl 2 rfl) ?_
        refine va_get (D := D) (ci := 3) (v := .ref q5) (C := RX3) (T := TX3) (N := 16) hx hb hts hin3 hown hK hP 0 rfl rfl 9 (by decide) kf26 (fun _ h9 => h9) rfl dX3_assignment_25 ?_
        refine lv_iconst (v := nI 4) hx hb dX3_assignment_28 (by decide) ?_
        refine lv_iload_n hx hb dX3_assignment_29 rfl (lv_at hl 3 rfl) ?_
        refine lv_imul hx hb dX3_assignment_30 ?_
        refine tp_i (show (nI 4) * (nI sd) = nI (4 * sd) from pk_mul _ _) ?_
        refine lv_iload hx hb dX3_assignment_31 (lv_at hl 0 rfl) ?_
        refine lv_iadd hx hb dX3_assignment_33 ?_
        refine tp_i (show (nI (4 * sd)) + (nI i) = nI (4 * sd + i) from nI_add _ _) ?_
        refine va_iald hx hb hK hP 6 0 rfl rfl (vp_in_nI (by omega) (by omega)) dX3_assignment_34 ?_
        refine tp_i (show (fun j => nI (gT j)) (nI (4 * sd + i)).toNatClampNeg = nI (gT (4 * sd + i)) from congrArg (fun j => nI (gT j)) (nI_clamp (by omega))) ?_
        refine lv_bipush (v := nI 8) hx hb dX3_assignment_35 (by decide) ?_
        refine lv_iload hx hb dX3_assignment_37 (lv_at hl 0 rfl) ?_
        refine lv_iadd hx hb dX3_assignment_39 ?_
        refine tp_i (show (nI 8) + (nI i) = nI (8 + i) from nI_add _ _) ?_
        refine lv_ishl hx hb dX3_assignment_40 ?_
        refine tp_i (show (nI (gT (4 * sd + i))) <<< ((nI (8 + i)) &&& 31) = nI (gT (4 * sd + i) * 2 ^ (8 + i)) from n_shl (by omega) (by omega)) ?_
        refine lv_ior hx hb dX3_assignment_41 ?_
        refine tp_i (show (nI (asF iv gT (4 * sd) i)) ||| (nI (gT (4 * sd + i) * 2 ^ (8 + i))) = nI (asF iv gT (4 * sd) i ||| gT (4 * sd + i) * 2 ^ (8 + i)) from n_or _ _) ?_
        refine lv_istore_n (lv' := [(3, .int (nI (asF iv gT (4 * sd) i ||| gT (4 * sd + i) * 2 ^ (8 + i)))), (4, .int (nI i)), (0, .ref hm), (1, .int (nI sd)), (2, .int inp)]) hx hb dX3_assignment_42 rfl hl (by decide) rfl (fun ls hl => ?_)
        refine lv_iinc (v := nI (i + 1)) (lv' := [(4, .int (nI (i + 1))), (3, .int (nI (asF iv gT (4 * sd) i ||| gT (4 * sd + i) * 2 ^ (8 + i)))), (0, .ref hm), (1, .int (nI sd)), (2, .int inp)]) hx hb dX3_assignment_43 hl (k := 1) rfl (nI_add i 1) (by decide) rfl (fun ls hl => ?_)
        refine lv_goto (tgt := 14) hx hb dX3_assignment_46 (by decide) ?_
        exact ih (i + 1) (by omega) (by omega) ls (by rw [show asF iv gT (4 * sd) (i + 1) = asF iv gT (4 * sd) i ||| gT (4 * sd + i) * 2 ^ (8 + i) from rfl]; exact lv_sub hl [0, 1, 2, 3, 4] rfl)
  exact loop (ml - 0 + 1) 0 (by omega) (by omega) ls (lv_sub hl [0, 1, 2, 3, 4] rfl)
set_option maxHeartbeats 4000000 in
set_option maxRecDepth 100000 in
/-- how many ANDs of a side -/
theorem c_X3_ands (sd : Int32) (hnd : nd ≤ 400) : Met l yX3_ands wsX3_ands { frames := 0, cells := 0, slots := 0, locals := 0 } (rd_P D [(cI, .int), (cJ, .long)] (mW hm q0 q1 q2 q3 q4 q5 q6 q7 q8 q9 cI cJ th nd fs ft mi ml fl gS gX gT gC gO fD gE sp fa) [.ref hm, .int sd]) (k2_QcV (.int (nI (cAnd fs sd nd)))) 0 0 (fun _ => False) := by
  refine Met.ofW (cc := cX3_ands) (maxL := 4) (ret := (some .int)) (by decide) rfl ?_
  intro p e s m args below meth c s₁ B hml hv
  obtain ⟨rfl, hP, hK⟩ := hv
  have hx := B.exec
  have hb := B.bytes
  have hr := B.returns
  have hts := atoms_spec (ws := wsX3_ands) B.pre
  have hown : s.vm.findClass RX3 = some m.cls := findClass_of_methodNamed B.named
  have hlocks := B.notSynchronized
  have hl := lv_entry ([.ref hm, .int sd]) (n := 4) (Nat.le_of_ble_eq_true rfl)
  rw [lg_entry_eq]
  generalize (lg_sl ([.ref hm, .int sd]) ++ List.replicate (4 - (lg_sl ([.ref hm, .int sd])).length) Slot.unset).toArray = ls at hl ⊢
  have hl : lv_has ls 4 [(0, .ref hm), (1, .int sd)] := hl
  have hP : va_P D vwCl [(hm, .inr (3, [.int th, .int (nI nd), .ref q0, .ref q1, .int (nI mi), .int (nI ml), .ref q2, .ref q3, .ref q4, .ref q5, .ref q6, .ref q7, .ref q8, .ref q9, .int (nI sp), .int fa])), (q0, .inl (cI, 401, .inl fs)), (q1, .inl (cJ, 25664, .inr (.inl ft))), (q2, .inl (cI, 4, .inl fl)), (q3, .inl (cI, 8, .inl (fun j => nI (gS j)))), (q4, .inl (cI, 8, .inl (fun j => nI (gX j)))), (q5, .inl (cI, 8, .inl (fun j => nI (gT j)))), (q6, .inl (cI, 2, .inl (fun j => nI (gC j)))), (q7, .inl (cI, 32, .inl (fun j => nI (gO j)))), (q8, .inl (cI, 32, .inl fD)), (q9, .inl (cI, 2, .inl (fun j => nI (gE j))))] s.heap := hP
  have hin3 : ∀ w ∈ wsX30, w ∈ wsX3_ands := by decide +kernel
  have kf48 := hts (.fieldLink RX3 48 "SweepEqualModel" "nodes" "I") (by decide +kernel)
  have kf7 := hts (.fieldLink RX3 7 "SweepEqualModel" "sides" "[I") (by decide +kernel)
  refine lv_iconst (v := nI 0) hx hb dX3_ands_0 (by decide) ?_
  refine lv_istore_n (lv' := [(2, .int (nI 0)), (0, .ref hm), (1, .int sd)]) hx hb dX3_ands_1 rfl hl (by decide) rfl (fun ls hl => ?_)
  refine lv_iconst (v := nI 0) hx hb dX3_ands_2 (by decide) ?_
  refine lv_istore_n (lv' := [(3, .int (nI 0)), (2, .int (nI 0)), (0, .ref hm), (1, .int sd)]) hx hb dX3_ands_3 rfl hl (by decide) rfl (fun ls hl => ?_)
  have loop : ∀ (n : Nat) (i : Nat), i ≤ nd → nd - i < n → ∀ ls : Array Slot, lv_has ls 4 [(2, .int (nI (cAnd fs sd i))), (3, .int (nI i)), (0, .ref hm), (1, .int sd)] → W p l e (headSpec wsX3_ands { frames := 0, cells := 0, slots := 0, locals := 0 }).room s m ([.ref hm, .int sd] : List Value).toArray below meth c s.heap [] 0 0 (MQ below (k2_QcV (.int (nI (cAnd fs sd nd)))) ([.ref hm, .int sd] : List Value).toArray s 0 0 (fun _ => False)) (F0 m 4 ls []) := by
    intro n
    induction n with
    | zero => intro i hi hM; exact absurd hM (Nat.not_lt_zero _)
    | succ n ih =>
      intro i hi hM ls hl
      have hc := cAnd_le fs sd i
      refine lv_iload_n hx hb dX3_ands_4 rfl (lv_at hl 1 rfl) ?_
      refine lv_aload_n hx hb dX3_ands_5 rfl (lv_at hl 2 rfl) ?_
      refine va_get (D := D) (ci := 3) (v := .int (nI nd)) (C := RX3) (T := TX3) (N := 16) hx hb hts hin3 hown hK hP 0 rfl rfl 1 (by decide) kf48 (fun _ h9 => h9) rfl dX3_ands_6 ?_
      refine lv_icmp_ge (tgt := 36) hx hb dX3_ands_9 (by decide) (fun c1 => ?_) (fun c1 => ?_)
      · have c1 : nd ≤ i := (nI_leI (by omega) (by omega)).mp c1
        refine lv_iload_n hx hb dX3_ands_36 rfl (lv_at hl 0 rfl) ?_
        have hi2 : i = nd := by omega
        exact rd_i hx hb hr hlocks dX3_ands_37 (by rw [hi2])
      · have c1 : ¬ (nd ≤ i) := fun h => c1 ((nI_leI (by omega) (by omega)).mpr h)
        refine lv_aload_n hx hb dX3_ands_12 rfl (lv_at hl 2 rfl) ?_
        refine va_get (D := D) (ci := 3) (v := .ref q0) (C := RX3) (T := TX3) (N := 16) hx hb hts hin3 hown hK hP 0 rfl rfl 2 (by decide) kf7 (fun _ h9 => h9) rfl dX3_ands_13 ?_
        refine lv_iload_n hx hb dX3_ands_16 rfl (lv_at hl 1 rfl) ?_
        refine va_iald hx hb hK hP 1 0 rfl rfl (vp_in_nI (by omega) (by omega)) dX3_ands_17 ?_
        refine tp_i (show fs (nI i).toNatClampNeg = fs i from congrArg fs (nI_clamp (by omega))) ?_
        refine lv_iload_n hx hb dX3_ands_18 rfl (lv_at hl 3 rfl) ?_
        refine lv_icmp_ne (tgt := 28) hx hb dX3_ands_19 (by decide) (fun c2 => ?_) (fun c2 => ?_)
        · refine lv_iload_n hx hb dX3_ands_28 rfl (lv_at hl 0 rfl) ?_
          refine lv_istore_n (lv' := [(2, .int (nI (cAnd fs sd i))), (3, .int (nI i)), (0, .ref hm), (1, .int sd)]) hx hb dX3_ands_29 rfl hl (by decide) rfl (fun ls hl => ?_)
          refine lv_iinc (v := nI (i + 1)) (lv' := [(3, .int (nI (i + 1))), (2, .int (nI (cAnd fs sd i))), (0, .ref hm), (1, .int sd)]) hx hb dX3_ands_30 hl (k := 1) rfl (nI_add i 1) (by decide) rfl (fun ls hl => ?_)
          refine lv_goto (tgt := 4) hx hb dX3_ands_33 (by decide) ?_
          exact ih (i + 1) (by omega) (by omega) ls (by rw [show cAnd fs sd (i + 1) = cAnd fs sd i from by simp [cAnd, c2]]; exact lv_sub hl [1, 0, 2, 3] rfl)
        · refine lv_iload_n hx hb dX3_ands_22 rfl (lv_at hl 0 rfl) ?_
          refine lv_iconst (v := nI 1) hx hb dX3_ands_23 (by decide) ?_
          refine lv_iadd hx hb dX3_ands_24 ?_
          refine tp_i (show (nI (cAnd fs sd i)) + (nI 1) = nI (cAnd fs sd i + 1) from nI_add _ _) ?_
          refine lv_goto (tgt := 29) hx hb dX3_ands_25 (by decide) ?_
          refine lv_istore_n (lv' := [(2, .int (nI (cAnd fs sd i + 1))), (3, .int (nI i)), (0, .ref hm), (1, .int sd)]) hx hb dX3_ands_29 rfl hl (by decide) rfl (fun ls hl => ?_)
          refine lv_iinc (v := nI (i + 1)) (lv' := [(3, .int (nI (i + 1))), (2, .int (nI (cAnd fs sd i + 1))), (0, .ref hm), (1, .int sd)]) hx hb dX3_ands_30 hl (k := 1) rfl (nI_add i 1) (by decide) rfl (fun ls hl => ?_)
          refine lv_goto (tgt := 4) hx hb dX3_ands_33 (by decide) ?_
          exact ih (i + 1) (by omega) (by omega) ls (by rw [show cAnd fs sd (i + 1) = cAnd fs sd i + 1 from by simp [cAnd, c2]]; exact lv_sub hl [1, 0, 2, 3] rfl)
  exact loop (nd - 0 + 1) 0 (by omega) (by omega) ls (lv_sub hl [1, 0, 2, 3] rfl)
set_option maxHeartbeats 4000000 in
set_option maxRecDepth 100000 in
/-- thrown -/
theorem c_X3_thrown  : Met l yX3_thrown wsX3_thrown { frames := 0, cells := 0, slots := 0, locals := 0 } (rd_P D [(cI, .int), (cJ, .long)] (mW hm q0 q1 q2 q3 q4 q5 q6 q7 q8 q9 cI cJ th nd fs ft mi ml fl gS gX gT gC gO fD gE sp fa) [.ref hm]) (k2_QcV (.int th)) 0 0 (fun _ => False) := by
  refine Met.ofW (cc := cX3_thrown) (maxL := 1) (ret := (some .int)) (by decide) rfl ?_
  intro p e s m args below meth c s₁ B hml hv
  obtain ⟨rfl, hP, hK⟩ := hv
  have hx := B.exec
  have hb := B.bytes
  have hr := B.returns
  have hts := atoms_spec (ws := wsX3_thrown) B.pre
  have hown : s.vm.findClass RX3 = some m.cls := findClass_of_methodNamed B.named
  have hlocks := B.notSynchronized
  have hl := lv_entry ([.ref hm]) (n := 1) (Nat.le_of_ble_eq_true rfl)
  rw [lg_entry_eq]
  generalize (lg_sl ([.ref hm]) ++ List.replicate (1 - (lg_sl ([.ref hm])).length) Slot.unset).toArray = ls at hl ⊢
  have hl : lv_has ls 1 [(0, .ref hm)] := hl
  have hP : va_P D vwCl [(hm, .inr (3, [.int th, .int (nI nd), .ref q0, .ref q1, .int (nI mi), .int (nI ml), .ref q2, .ref q3, .ref q4, .ref q5, .ref q6, .ref q7, .ref q8, .ref q9, .int (nI sp), .int fa])), (q0, .inl (cI, 401, .inl fs)), (q1, .inl (cJ, 25664, .inr (.inl ft))), (q2, .inl (cI, 4, .inl fl)), (q3, .inl (cI, 8, .inl (fun j => nI (gS j)))), (q4, .inl (cI, 8, .inl (fun j => nI (gX j)))), (q5, .inl (cI, 8, .inl (fun j => nI (gT j)))), (q6, .inl (cI, 2, .inl (fun j => nI (gC j)))), (q7, .inl (cI, 32, .inl (fun j => nI (gO j)))), (q8, .inl (cI, 32, .inl fD)), (q9, .inl (cI, 2, .inl (fun j => nI (gE j))))] s.heap := hP
  have hin3 : ∀ w ∈ wsX30, w ∈ wsX3_thrown := by decide +kernel
  have kf44 := hts (.fieldLink RX3 44 "SweepEqualModel" "thrown" "I") (by decide +kernel)
  refine lv_aload_n hx hb dX3_thrown_0 rfl (lv_at hl 0 rfl) ?_
  refine va_get (D := D) (ci := 3) (v := .int th) (C := RX3) (T := TX3) (N := 16) hx hb hts hin3 hown hK hP 0 rfl rfl 0 (by decide) kf44 (fun _ h9 => h9) rfl dX3_thrown_1 ?_
  exact rd_i hx hb hr hlocks dX3_thrown_4 (rfl)
end MR
