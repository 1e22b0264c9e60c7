/-! Readers of Nodes: contracts. -/
section RN
variable (l : Launch) (D : va_G) (cI cJ : ClassId) (hn ow fi ma ro cnt len : Nat) (fo ff : Nat → Int32) (fk fr : Nat → Int64)
set_option maxHeartbeats 4000000 in
set_option maxRecDepth 100000 in
/-- word w of a literal -/
theorem c_X1_wordOf (lit w : Nat) (h1 : lit / 2 * 64 + w < len) (h2 : len ≤ 25600) : Met l yX1_wordOf wsX1_wordOf { frames := 0, cells := 0, slots := 0, locals := 0 } (rd_P D [(cI, .int), (cJ, .long)] (nW hn ow fi ma ro cI cJ cnt len fo ff fk fr) [.ref hn, .int (nI lit), .int (nI w)]) (k2_QcV (.long (wd fr lit w))) 0 0 (fun _ => False) := by
  refine Met.ofW (cc := cX1_wordOf) (maxL := 5) (ret := (some .long)) (by decide) rfl ?_
  intro p e s m args below meth c s₁ B hml hv
  obtain ⟨rfl, hP, hK⟩ := hv
  have hx := B.exec
  have hb := B.bytes
  have hr := B.returns
  have hts := atoms_spec (ws := wsX1_wordOf) B.pre
  have hown : s.vm.findClass RX1 = some m.cls := findClass_of_methodNamed B.named
  have hlocks := B.notSynchronized
  have hl := lv_entry ([.ref hn, .int (nI lit), .int (nI w)]) (n := 5) (Nat.le_of_ble_eq_true rfl)
  rw [lg_entry_eq]
  generalize (lg_sl ([.ref hn, .int (nI lit), .int (nI w)]) ++ List.replicate (5 - (lg_sl ([.ref hn, .int (nI lit), .int (nI w)])).length) Slot.unset).toArray = ls at hl ⊢
  have hl : lv_has ls 5 [(0, .ref hn), (1, .int (nI lit)), (2, .int (nI w))] := hl
  have hin1 : ∀ w ∈ wsX10, w ∈ wsX1_wordOf := by decide +kernel
  have kf26 := hts (.fieldLink RX1 26 "SweepEqual$Nodes" "rows" "[J") (by decide +kernel)
  refine lv_aload_n hx hb dX1_wordOf_0 rfl (lv_at hl 0 rfl) ?_
  refine va_get (D := D) (ci := 1) (v := .ref ro) (C := RX1) (T := TX1) (N := 5) hx hb hts hin1 hown hK hP 0 rfl rfl 4 (by decide) kf26 (fun _ h9 => h9) rfl dX1_wordOf_1 ?_
  refine lv_iload_n hx hb dX1_wordOf_4 rfl (lv_at hl 1 rfl) ?_
  refine lv_iconst (v := nI 1) hx hb dX1_wordOf_5 (by decide) ?_
  refine lv_ishr hx hb dX1_wordOf_6 ?_
  refine tp_i (show (nI lit) >>> ((nI 1) &&& 31) = nI (lit / 2) from n_shr (by omega) (by omega)) ?_
  refine lv_bipush (v := nI 64) hx hb dX1_wordOf_7 (by decide) ?_
  refine lv_imul hx hb dX1_wordOf_9 ?_
  refine tp_i (show (nI (lit / 2)) * (nI 64) = nI ((lit / 2) * 64) from pk_mul _ _) ?_
  refine lv_iload_n hx hb dX1_wordOf_10 rfl (lv_at hl 2 rfl) ?_
  refine lv_iadd hx hb dX1_wordOf_11 ?_
  refine tp_i (show (nI ((lit / 2) * 64)) + (nI w) = nI ((lit / 2) * 64 + w) from nI_add _ _) ?_
  refine va_lald hx hb hK hP 4 1 rfl rfl (vp_in_nI (by omega) (by omega)) dX1_wordOf_12 ?_
  refine tp_l (show fr (nI ((lit / 2) * 64 + w)).toNatClampNeg = fr ((lit / 2) * 64 + w) from congrArg fr (nI_clamp (by omega))) ?_
  refine lv_lstore_n (lv' := [(3, .long (fr ((lit / 2) * 64 + w))), (0, .ref hn), (1, .int (nI lit)), (2, .int (nI w))]) hx hb dX1_wordOf_13 rfl hl (by decide) rfl (fun ls hl => ?_)
  refine lv_iload_n hx hb dX1_wordOf_14 rfl (lv_at hl 2 rfl) ?_
  refine lv_iconst (v := nI 1) hx hb dX1_wordOf_15 (by decide) ?_
  refine lv_iand hx hb dX1_wordOf_16 ?_
  refine tp_i (show (nI lit) &&& (nI 1) = nI (lit % 2) from n_and1 (by omega)) ?_
  refine lv_iconst (v := nI 1) hx hb dX1_wordOf_17 (by decide) ?_
  refine lv_icmp_ne (tgt := 29) hx hb dX1_wordOf_18 (by decide) (fun c1 => ?_) (fun c1 => ?_)
  · have c1 : ¬ lit % 2 = 1 := fun h => c1 ((nI_eq (by omega) (by omega)).mpr h)
    refine lv_lload_n hx hb dX1_wordOf_29 rfl (lv_at hl 0 rfl) ?_
    exact rd_l hx hb hr hlocks dX1_wordOf_30 (by simp [wd, c1])
  · have c1 : lit % 2 = 1 := (nI_eq (by omega) (by omega)).mp c1
    refine lv_lload_n hx hb dX1_wordOf_21 rfl (lv_at hl 0 rfl) ?_
    refine lv_ldc2 hx hb hown (hts (.constantLong RX1 97 (-1)) (by decide +kernel)) dX1_wordOf_22 ?_
    refine lv_lxor hx hb dX1_wordOf_25 ?_
    refine lv_goto (tgt := 30) hx hb dX1_wordOf_26 (by decide) ?_
    exact rd_l hx hb hr hlocks dX1_wordOf_30 (by simp [wd, c1])
set_option maxHeartbeats 4000000 in
set_option maxRecDepth 100000 in
/-- the first of a literal, out of the table -/
theorem c_X1_firstOf (lit : Nat) (h1 : lit / 2 < 400) : Met l yX1_firstOf wsX1_firstOf { frames := 0, cells := 0, slots := 0, locals := 0 } (rd_P D [(cI, .int), (cJ, .long)] (nW hn ow fi ma ro cI cJ cnt len fo ff fk fr) [.ref hn, .int (nI lit)]) (k2_QcV (.int (fs1 ff lit))) 0 0 (fun _ => False) := by
  refine Met.ofW (cc := cX1_firstOf) (maxL := 2) (ret := (some .int)) (by decide) rfl ?_
  intro p e s m args below meth c s₁ B hml hv
  obtain ⟨rfl, hP, hK⟩ := hv
  have hx := B.exec
  have hb := B.bytes
  have hr := B.returns
  have hts := atoms_spec (ws := wsX1_firstOf) B.pre
  have hown : s.vm.findClass RX1 = some m.cls := findClass_of_methodNamed B.named
  have hlocks := B.notSynchronized
  have hl := lv_entry ([.ref hn, .int (nI lit)]) (n := 2) (Nat.le_of_ble_eq_true rfl)
  rw [lg_entry_eq]
  generalize (lg_sl ([.ref hn, .int (nI lit)]) ++ List.replicate (2 - (lg_sl ([.ref hn, .int (nI lit)])).length) Slot.unset).toArray = ls at hl ⊢
  have hl : lv_has ls 2 [(0, .ref hn), (1, .int (nI lit))] := hl
  have hin1 : ∀ w ∈ wsX10, w ∈ wsX1_firstOf := by decide +kernel
  have kf19 := hts (.fieldLink RX1 19 "SweepEqual$Nodes" "firsts" "[I") (by decide +kernel)
  refine lv_aload_n hx hb dX1_firstOf_0 rfl (lv_at hl 0 rfl) ?_
  refine va_get (D := D) (ci := 1) (v := .ref fi) (C := RX1) (T := TX1) (N := 5) hx hb hts hin1 hown hK hP 0 rfl rfl 2 (by decide) kf19 (fun _ h9 => h9) rfl dX1_firstOf_1 ?_
  refine lv_iload_n hx hb dX1_firstOf_4 rfl (lv_at hl 1 rfl) ?_
  refine lv_iconst (v := nI 1) hx hb dX1_firstOf_5 (by decide) ?_
  refine lv_ishr hx hb dX1_firstOf_6 ?_
  refine tp_i (show (nI lit) >>> ((nI 1) &&& 31) = nI (lit / 2) from n_shr (by omega) (by omega)) ?_
  refine va_iald hx hb hK hP 2 0 rfl rfl (vp_in_nI (by omega) (by omega)) dX1_firstOf_7 ?_
  refine tp_i (show ff (nI (lit / 2)).toNatClampNeg = ff (lit / 2) from congrArg ff (nI_clamp (by omega))) ?_
  refine lv_iload_n hx hb dX1_firstOf_8 rfl (lv_at hl 1 rfl) ?_
  refine lv_iconst (v := nI 1) hx hb dX1_firstOf_9 (by decide) ?_
  refine lv_iand hx hb dX1_firstOf_10 ?_
  refine tp_i (show (nI lit) &&& (nI 1) = nI (lit % 2) from n_and1 (by omega)) ?_
  refine lv_ixor hx hb dX1_firstOf_11 ?_
  exact rd_i hx hb hr hlocks dX1_firstOf_12 (rfl)
set_option maxHeartbeats 4000000 in
set_option maxRecDepth 100000 in
/-- whether a node is its own first -/
theorem c_X1_isLeast (nd : Nat) (h1 : nd < 400) : Met l yX1_isLeast wsX1_isLeast { frames := 0, cells := 0, slots := 0, locals := 0 } (rd_P D [(cI, .int), (cJ, .long)] (nW hn ow fi ma ro cI cJ cnt len fo ff fk fr) [.ref hn, .int (nI nd)]) (k2_QcV (.int (zI (decide (ff nd = nI (2 * nd)))))) 0 0 (fun _ => False) := by
  refine Met.ofW (cc := cX1_isLeast) (maxL := 2) (ret := (some .boolean)) (by decide) rfl ?_
  intro p e s m args below meth c s₁ B hml hv
  obtain ⟨rfl, hP, hK⟩ := hv
  have hx := B.exec
  have hb := B.bytes
  have hr := B.returns
  have hts := atoms_spec (ws := wsX1_isLeast) B.pre
  have hown : s.vm.findClass RX1 = some m.cls := findClass_of_methodNamed B.named
  have hlocks := B.notSynchronized
  have hl := lv_entry ([.ref hn, .int (nI nd)]) (n := 2) (Nat.le_of_ble_eq_true rfl)
  rw [lg_entry_eq]
  generalize (lg_sl ([.ref hn, .int (nI nd)]) ++ List.replicate (2 - (lg_sl ([.ref hn, .int (nI nd)])).length) Slot.unset).toArray = ls at hl ⊢
  have hl : lv_has ls 2 [(0, .ref hn), (1, .int (nI nd))] := hl
  have hin1 : ∀ w ∈ wsX10, w ∈ wsX1_isLeast := by decide +kernel
  have kf19 := hts (.fieldLink RX1 19 "SweepEqual$Nodes" "firsts" "[I") (by decide +kernel)
  refine lv_aload_n hx hb dX1_isLeast_0 rfl (lv_at hl 0 rfl) ?_
  refine va_get (D := D) (ci := 1) (v := .ref fi) (C := RX1) (T := TX1) (N := 5) hx hb hts hin1 hown hK hP 0 rfl rfl 2 (by decide) kf19 (fun _ h9 => h9) rfl dX1_isLeast_1 ?_
  refine lv_iload_n hx hb dX1_isLeast_4 rfl (lv_at hl 1 rfl) ?_
  refine va_iald hx hb hK hP 2 0 rfl rfl (vp_in_nI (by omega) (by omega)) dX1_isLeast_5 ?_
  refine tp_i (show ff (nI nd).toNatClampNeg = ff nd from congrArg ff (nI_clamp (by omega))) ?_
  refine lv_iconst (v := nI 2) hx hb dX1_isLeast_6 (by decide) ?_
  refine lv_iload_n hx hb dX1_isLeast_7 rfl (lv_at hl 1 rfl) ?_
  refine lv_imul hx hb dX1_isLeast_8 ?_
  refine tp_i (show (nI 2) * (nI nd) = nI (2 * nd) from pk_mul _ _) ?_
  refine lv_icmp_ne (tgt := 16) hx hb dX1_isLeast_9 (by decide) (fun c1 => ?_) (fun c1 => ?_)
  · refine lv_iconst (v := nI 0) hx hb dX1_isLeast_16 (by decide) ?_
    exact rd_z hx hb hr hlocks dX1_isLeast_17 (by simp [zI, c1, nI_zero]) (zI_01 _)
  · refine lv_iconst (v := nI 1) hx hb dX1_isLeast_12 (by decide) ?_
    refine lv_goto (tgt := 17) hx hb dX1_isLeast_13 (by decide) ?_
    exact rd_z hx hb hr hlocks dX1_isLeast_17 (by simp [zI, c1, nI_one]) (zI_01 _)
set_option maxHeartbeats 4000000 in
set_option maxRecDepth 100000 in
/-- whether a literal is of an AND of the other side -/
theorem c_X1_isOfOtherSide (sd : Int32) (lit : Nat) (h1 : lit / 2 < 400) : Met l yX1_isOfOtherSide wsX1_isOfOtherSide { frames := 0, cells := 0, slots := 0, locals := 0 } (rd_P D [(cI, .int), (cJ, .long)] (nW hn ow fi ma ro cI cJ cnt len fo ff fk fr) [.ref hn, .int sd, .int (nI lit)]) (k2_QcV (.int (zI (decide (¬ fo (lit / 2) = -1 ∧ ¬ fo (lit / 2) = sd))))) 0 0 (fun _ => False) := by
  refine Met.ofW (cc := cX1_isOfOtherSide) (maxL := 4) (ret := (some .boolean)) (by decide) rfl ?_
  intro p e s m args below meth c s₁ B hml hv
  obtain ⟨rfl, hP, hK⟩ := hv
  have hx := B.exec
  have hb := B.bytes
  have hr := B.returns
  have hts := atoms_spec (ws := wsX1_isOfOtherSide) B.pre
  have hown : s.vm.findClass RX1 = some m.cls := findClass_of_methodNamed B.named
  have hlocks := B.notSynchronized
  have hl := lv_entry ([.ref hn, .int sd, .int (nI lit)]) (n := 4) (Nat.le_of_ble_eq_true rfl)
  rw [lg_entry_eq]
  generalize (lg_sl ([.ref hn, .int sd, .int (nI lit)]) ++ List.replicate (4 - (lg_sl ([.ref hn, .int sd, .int (nI lit)])).length) Slot.unset).toArray = ls at hl ⊢
  have hl : lv_has ls 4 [(0, .ref hn), (1, .int sd), (2, .int (nI lit))] := hl
  have hin1 : ∀ w ∈ wsX10, w ∈ wsX1_isOfOtherSide := by decide +kernel
  have kf15 := hts (.fieldLink RX1 15 "SweepEqual$Nodes" "owners" "[I") (by decide +kernel)
  refine lv_aload_n hx hb dX1_isOfOtherSide_0 rfl (lv_at hl 0 rfl) ?_
  refine va_get (D := D) (ci := 1) (v := .ref ow) (C := RX1) (T := TX1) (N := 5) hx hb hts hin1 hown hK hP 0 rfl rfl 1 (by decide) kf15 (fun _ h9 => h9) rfl dX1_isOfOtherSide_1 ?_
  refine lv_iload_n hx hb dX1_isOfOtherSide_4 rfl (lv_at hl 2 rfl) ?_
  refine lv_iconst (v := nI 1) hx hb dX1_isOfOtherSide_5 (by decide) ?_
  refine lv_ishr hx hb dX1_isOfOtherSide_6 ?_
  refine tp_i (show (nI lit) >>> ((nI 1) &&& 31) = nI (lit / 2) from n_shr (by omega) (by omega)) ?_
  refine va_iald hx hb hK hP 1 0 rfl rfl (vp_in_nI (by omega) (by omega)) dX1_isOfOtherSide_7 ?_
  refine tp_i (show fo (nI (lit / 2)).toNatClampNeg = fo (lit / 2) from congrArg fo (nI_clamp (by omega))) ?_
  refine lv_istore_n (lv' := [(3, .int (fo (lit / 2))), (0, .ref hn), (1, .int sd), (2, .int (nI lit))]) hx hb dX1_isOfOtherSide_8 rfl hl (by decide) rfl (fun ls hl => ?_)
  refine lv_iload_n hx hb dX1_isOfOtherSide_9 rfl (lv_at hl 0 rfl) ?_
  refine lv_iconst (v := -1) hx hb dX1_isOfOtherSide_10 (by decide) ?_
  refine lv_icmp_eq (tgt := 23) hx hb dX1_isOfOtherSide_11 (by decide) (fun c1 => ?_) (fun c1 => ?_)
  · refine lv_iconst (v := nI 0) hx hb dX1_isOfOtherSide_23 (by decide) ?_
    exact rd_z hx hb hr hlocks dX1_isOfOtherSide_24 (by simp [zI, c1, nI_zero]) (zI_01 _)
  · refine lv_iload_n hx hb dX1_isOfOtherSide_14 rfl (lv_at hl 0 rfl) ?_
    refine lv_iload_n hx hb dX1_isOfOtherSide_15 rfl (lv_at hl 2 rfl) ?_
    refine lv_icmp_eq (tgt := 23) hx hb dX1_isOfOtherSide_16 (by decide) (fun c2 => ?_) (fun c2 => ?_)
    · refine lv_iconst (v := nI 0) hx hb dX1_isOfOtherSide_23 (by decide) ?_
      exact rd_z hx hb hr hlocks dX1_isOfOtherSide_24 (by simp [zI, c2, nI_zero]) (zI_01 _)
    · refine lv_iconst (v := nI 1) hx hb dX1_isOfOtherSide_19 (by decide) ?_
      refine lv_goto (tgt := 24) hx hb dX1_isOfOtherSide_20 (by decide) ?_
      exact rd_z hx hb hr hlocks dX1_isOfOtherSide_24 (by simp [zI, c1, c2, nI_one]) (zI_01 _)
set_option maxHeartbeats 4000000 in
set_option maxRecDepth 100000 in
/-- whether two literals have one first -/
theorem c_X1_areSame (la lb : Nat) (h1 : la / 2 < 400) (h2 : lb / 2 < 400) : Met l yX1_areSame wsX1_areSame { frames := 1, cells := 0, slots := 0, locals := 21 } (rd_P D [(cI, .int), (cJ, .long)] (nW hn ow fi ma ro cI cJ cnt len fo ff fk fr) [.ref hn, .int (nI la), .int (nI lb)]) (k2_QcV (.int (zI (decide (fs1 ff la = fs1 ff lb))))) 0 0 (fun _ => False) := by
  refine Met.ofW (cc := cX1_areSame) (maxL := 3) (ret := (some .boolean)) (by decide) rfl ?_
  intro p e s m args below meth c s₁ B hml hv
  obtain ⟨rfl, hP, hK⟩ := hv
  have hx := B.exec
  have hb := B.bytes
  have hr := B.returns
  have hts := atoms_spec (ws := wsX1_areSame) B.pre
  have hown : s.vm.findClass RX1 = some m.cls := findClass_of_methodNamed B.named
  have hlocks := B.notSynchronized
  have hl := lv_entry ([.ref hn, .int (nI la), .int (nI lb)]) (n := 3) (Nat.le_of_ble_eq_true rfl)
  rw [lg_entry_eq]
  generalize (lg_sl ([.ref hn, .int (nI la), .int (nI lb)]) ++ List.replicate (3 - (lg_sl ([.ref hn, .int (nI la), .int (nI lb)])).length) Slot.unset).toArray = ls at hl ⊢
  have hl : lv_has ls 3 [(0, .ref hn), (1, .int (nI la)), (2, .int (nI lb))] := hl
  refine lv_aload_n hx hb dX1_areSame_0 rfl (lv_at hl 0 rfl) ?_
  refine lv_iload_n hx hb dX1_areSame_1 rfl (lv_at hl 1 rfl) ?_
  refine rd_V (As := [.int (nI la)]) (rest := []) ⟨hx, hb, hml, hown, hts⟩ (c_X1_firstOf l D cI cJ hn ow fi ma ro cnt len fo ff fk fr la h1) (cwV 1 hts gX1_areSame_X1_firstOf rfl rfl rfl (by decide +kernel) ⟨Nat.le_of_ble_eq_true rfl, Nat.le_of_ble_eq_true rfl⟩) (rd_pv (ci := 1) (q0 := 0) hK hP rfl rfl) rfl hl.1 rfl (Nat.le_of_ble_eq_true rfl) dX1_areSame_2 ⟨Nat.zero_le _, Nat.zero_le _⟩ ?_
  refine lv_aload_n hx hb dX1_areSame_5 rfl (lv_at hl 0 rfl) ?_
  refine lv_iload_n hx hb dX1_areSame_6 rfl (lv_at hl 2 rfl) ?_
  refine rd_V (As := [.int (nI lb)]) (rest := [.int (fs1 ff la)]) ⟨hx, hb, hml, hown, hts⟩ (c_X1_firstOf l D cI cJ hn ow fi ma ro cnt len fo ff fk fr lb h2) (cwV 1 hts gX1_areSame_X1_firstOf rfl rfl rfl (by decide +kernel) ⟨Nat.le_of_ble_eq_true rfl, Nat.le_of_ble_eq_true rfl⟩) (rd_pv (ci := 1) (q0 := 0) hK hP rfl rfl) rfl hl.1 rfl (Nat.le_of_ble_eq_true rfl) dX1_areSame_7 ⟨Nat.zero_le _, Nat.zero_le _⟩ ?_
  refine lv_icmp_ne (tgt := 17) hx hb dX1_areSame_10 (by decide) (fun c1 => ?_) (fun c1 => ?_)
  · refine lv_iconst (v := nI 0) hx hb dX1_areSame_17 (by decide) ?_
    exact rd_z hx hb hr hlocks dX1_areSame_18 (by simp [zI, c1, nI_zero]) (zI_01 _)
  · refine lv_iconst (v := nI 1) hx hb dX1_areSame_13 (by decide) ?_
    refine lv_goto (tgt := 18) hx hb dX1_areSame_14 (by decide) ?_
    exact rd_z hx hb hr hlocks dX1_areSame_18 (by simp [zI, c1, nI_one]) (zI_01 _)
set_option maxHeartbeats 4000000 in
set_option maxRecDepth 100000 in
/-- the value of a literal in an assignment -/
theorem c_X1_valueIn (lit : Nat) (av : Int32) (k : Nat) (hk : av &&& 4095 = nI k) (hk2 : k < 4096) (h1 : lit / 2 * 64 + 63 < len) (h2 : len ≤ 25600) : Met l yX1_valueIn wsX1_valueIn { frames := 1, cells := 0, slots := 0, locals := 24 } (rd_P D [(cI, .int), (cJ, .long)] (nW hn ow fi ma ro cI cJ cnt len fo ff fk fr) [.ref hn, .int (nI lit), .int av]) (k2_QcV (.int (zI (bt fr lit k)))) 0 0 (fun _ => False) := by
  refine Met.ofW (cc := cX1_valueIn) (maxL := 4) (ret := (some .int)) (by decide) rfl ?_
  intro p e s m args below meth c s₁ B hml hv
  obtain ⟨rfl, hP, hK⟩ := hv
  have hx := B.exec
  have hb := B.bytes
  have hr := B.returns
  have hts := atoms_spec (ws := wsX1_valueIn) B.pre
  have hown : s.vm.findClass RX1 = some m.cls := findClass_of_methodNamed B.named
  have hlocks := B.notSynchronized
  have hl := lv_entry ([.ref hn, .int (nI lit), .int av]) (n := 4) (Nat.le_of_ble_eq_true rfl)
  rw [lg_entry_eq]
  generalize (lg_sl ([.ref hn, .int (nI lit), .int av]) ++ List.replicate (4 - (lg_sl ([.ref hn, .int (nI lit), .int av])).length) Slot.unset).toArray = ls at hl ⊢
  have hl : lv_has ls 4 [(0, .ref hn), (1, .int (nI lit)), (2, .int av)] := hl
  refine lv_iload_n hx hb dX1_valueIn_0 rfl (lv_at hl 2 rfl) ?_
  refine lv_sipush (v := 4095) hx hb dX1_valueIn_1 (by decide) ?_
  refine lv_iand hx hb dX1_valueIn_4 ?_
  refine tp_i (show av &&& 4095 = nI k from hk) ?_
  refine lv_istore_n (lv' := [(3, .int (nI k)), (0, .ref hn), (1, .int (nI lit)), (2, .int av)]) hx hb dX1_valueIn_5 rfl hl (by decide) rfl (fun ls hl => ?_)
  refine lv_aload_n hx hb dX1_valueIn_6 rfl (lv_at hl 1 rfl) ?_
  refine lv_iload_n hx hb dX1_valueIn_7 rfl (lv_at hl 2 rfl) ?_
  refine lv_iload_n hx hb dX1_valueIn_8 rfl (lv_at hl 0 rfl) ?_
  refine lv_bipush (v := nI 64) hx hb dX1_valueIn_9 (by decide) ?_
  refine lv_idiv hx hb dX1_valueIn_11 (nI_ne0 (by omega) (by omega)) ?_
  refine tp_i (show (nI k) / (nI 64) = nI (k / 64) from pk_div (by omega) (by omega) (by omega)) ?_
  refine rd_V (As := [.int (nI lit), .int (nI (k / 64))]) (rest := []) ⟨hx, hb, hml, hown, hts⟩ (c_X1_wordOf l D cI cJ hn ow fi ma ro cnt len fo ff fk fr lit (k / 64) (by omega) h2) (cwV 2 hts gX1_valueIn_X1_wordOf rfl rfl rfl (by decide +kernel) ⟨Nat.le_of_ble_eq_true rfl, Nat.le_of_ble_eq_true rfl⟩) (rd_pv (ci := 1) (q0 := 0) hK hP rfl rfl) rfl hl.1 rfl (Nat.le_of_ble_eq_true rfl) dX1_valueIn_12 ⟨Nat.zero_le _, Nat.zero_le _⟩ ?_
  refine lv_iload_n hx hb dX1_valueIn_15 rfl (lv_at hl 0 rfl) ?_
  refine lv_bipush (v := nI 64) hx hb dX1_valueIn_16 (by decide) ?_
  refine lv_irem hx hb dX1_valueIn_18 (nI_ne0 (by omega) (by omega)) ?_
  refine tp_i (show (nI k) - (nI k) / (nI 64) * (nI 64) = nI (k % 64) from n_rem (by omega) (by omega) (by omega)) ?_
  refine lv_lushr (v := ((wd fr lit (k / 64)).toUInt64 >>> ((nI (k % 64)).toInt64.toUInt64 &&& Int64.toUInt64 63)).toInt64) hx hb dX1_valueIn_19 (rfl) ?_
  refine lv_l2i (v := (((wd fr lit (k / 64)).toUInt64 >>> ((nI (k % 64)).toInt64.toUInt64 &&& Int64.toUInt64 63)).toInt64).toInt32) hx hb dX1_valueIn_20 (rfl) ?_
  refine lv_iconst (v := nI 1) hx hb dX1_valueIn_21 (by decide) ?_
  refine lv_iand hx hb dX1_valueIn_22 ?_
  refine tp_i (show ((((wd fr lit (k / 64)).toUInt64 >>> ((nI (k % 64)).toInt64.toUInt64 &&& Int64.toUInt64 63)).toInt64).toInt32) &&& (nI 1) = zI (bt fr lit k) from bit_l _ (by omega)) ?_
  exact rd_i hx hb hr hlocks dX1_valueIn_23 (rfl)
end RN
