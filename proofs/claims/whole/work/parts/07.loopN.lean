/-! Readers of Nodes with a loop: counts. -/
section RC
variable (l : Launch) (D : va_G) (cI cJ : ClassId) (hn ow fi ma ro cnt len : Nat) (fo ff : Nat → Int32) (fk fr : Nat → Int64)
set_option maxHeartbeats 4000000 in
set_option maxRecDepth 100000 in
/-- how many ANDs of a side -/
theorem c_X1_countAnds (sd : Int32) (h1 : cnt ≤ 400) : Met l yX1_countAnds wsX1_countAnds { frames := 0, cells := 0, slots := 0, locals := 0 } (rd_P D [(cI, .int), (cJ, .long)] (nW hn ow fi ma ro cI cJ cnt len fo ff fk fr) [.ref hn, .int sd]) (k2_QcV (.int (nI (cAnd fo sd cnt)))) 0 0 (fun _ => False) := by
  refine Met.ofW (cc := cX1_countAnds) (maxL := 4) (ret := (some .int)) (by decide) rfl ?_
  intro p e s m args below meth c s₁ B hml hv
  obtain ⟨rfl, hP, hK⟩ := hv
  have hx := B.exec
  have hb := B.bytes
  have hr := B.returns
  have hts := atoms_spec (ws := wsX1_countAnds) B.pre
  have hown : s.vm.findClass RX1 = some m.cls := findClass_of_methodNamed B.named
  have hlocks := B.notSynchronized
  have hl := lv_entry ([.ref hn, .int sd]) (n := 4) (Nat.le_of_ble_eq_true rfl)
  rw [lg_entry_eq]
  generalize (lg_sl ([.ref hn, .int sd]) ++ List.replicate (4 - (lg_sl ([.ref hn, .int sd])).length) Slot.unset).toArray = ls at hl ⊢
  have hl : lv_has ls 4 [(0, .ref hn), (1, .int sd)] := hl
  have hin1 : ∀ w ∈ wsX10, w ∈ wsX1_countAnds := by decide +kernel
  have kf11 := hts (.fieldLink RX1 11 "SweepEqual$Nodes" "count" "I") (by decide +kernel)
  have kf15 := hts (.fieldLink RX1 15 "SweepEqual$Nodes" "owners" "[I") (by decide +kernel)
  refine lv_iconst (v := nI 0) hx hb dX1_countAnds_0 (by decide) ?_
  refine lv_istore_n (lv' := [(2, .int (nI 0)), (0, .ref hn), (1, .int sd)]) hx hb dX1_countAnds_1 rfl hl (by decide) rfl (fun ls hl => ?_)
  refine lv_iconst (v := nI 0) hx hb dX1_countAnds_2 (by decide) ?_
  refine lv_istore_n (lv' := [(3, .int (nI 0)), (2, .int (nI 0)), (0, .ref hn), (1, .int sd)]) hx hb dX1_countAnds_3 rfl hl (by decide) rfl (fun ls hl => ?_)
  have loop : ∀ (n : Nat) (i : Nat), i ≤ cnt → cnt - i < n → ∀ ls : Array Slot, lv_has ls 4 [(2, .int (nI (cAnd fo sd i))), (3, .int (nI i)), (0, .ref hn), (1, .int sd)] → W p l e (headSpec wsX1_countAnds { frames := 0, cells := 0, slots := 0, locals := 0 }).room s m ([.ref hn, .int sd] : List Value).toArray below meth c s.heap [] 0 0 (MQ below (k2_QcV (.int (nI (cAnd fo sd cnt)))) ([.ref hn, .int sd] : List Value).toArray s 0 0 (fun _ => False)) (F0 m 4 ls []) := by
    intro n
    induction n with
    | zero => intro i hi hM; exact absurd hM (Nat.not_lt_zero _)
    | succ n ih =>
      intro i hi hM ls hl
      have hc := cAnd_le fo sd i
      refine lv_iload_n hx hb dX1_countAnds_4 rfl (lv_at hl 1 rfl) ?_
      refine lv_aload_n hx hb dX1_countAnds_5 rfl (lv_at hl 2 rfl) ?_
      refine va_get (D := D) (ci := 1) (v := .int (nI cnt)) (C := RX1) (T := TX1) (N := 5) hx hb hts hin1 hown hK hP 0 rfl rfl 0 (by decide) kf11 (fun _ h9 => h9) rfl dX1_countAnds_6 ?_
      refine lv_icmp_ge (tgt := 31) hx hb dX1_countAnds_9 (by decide) (fun c1 => ?_) (fun c1 => ?_)
      · have c1 : cnt ≤ i := (nI_leI (by omega) (by omega)).mp c1
        refine lv_iload_n hx hb dX1_countAnds_31 rfl (lv_at hl 0 rfl) ?_
        have hi2 : i = cnt := by omega
        exact rd_i hx hb hr hlocks dX1_countAnds_32 (by rw [hi2])
      · have c1 : ¬ (cnt ≤ i) := fun h => c1 ((nI_leI (by omega) (by omega)).mpr h)
        refine lv_aload_n hx hb dX1_countAnds_12 rfl (lv_at hl 2 rfl) ?_
        refine va_get (D := D) (ci := 1) (v := .ref ow) (C := RX1) (T := TX1) (N := 5) hx hb hts hin1 hown hK hP 0 rfl rfl 1 (by decide) kf15 (fun _ h9 => h9) rfl dX1_countAnds_13 ?_
        refine lv_iload_n hx hb dX1_countAnds_16 rfl (lv_at hl 1 rfl) ?_
        refine va_iald hx hb hK hP 1 0 rfl rfl (vp_in_nI (by omega) (by omega)) dX1_countAnds_17 ?_
        refine tp_i (show fo (nI i).toNatClampNeg = fo i from congrArg fo (nI_clamp (by omega))) ?_
        refine lv_iload_n hx hb dX1_countAnds_18 rfl (lv_at hl 3 rfl) ?_
        refine lv_icmp_ne (tgt := 25) hx hb dX1_countAnds_19 (by decide) (fun c2 => ?_) (fun c2 => ?_)
        · refine lv_iinc (v := nI (i + 1)) (lv' := [(3, .int (nI (i + 1))), (2, .int (nI (cAnd fo sd i))), (0, .ref hn), (1, .int sd)]) hx hb dX1_countAnds_25 hl (k := 1) rfl (nI_add i 1) (by decide) rfl (fun ls hl => ?_)
          refine lv_goto (tgt := 4) hx hb dX1_countAnds_28 (by decide) ?_
          exact ih (i + 1) (by omega) (by omega) ls (by rw [show cAnd fo sd (i + 1) = cAnd fo sd i from by simp [cAnd, c2]]; exact lv_sub hl [1, 0, 2, 3] rfl)
        · refine lv_iinc (v := nI (cAnd fo sd i + 1)) (lv' := [(2, .int (nI (cAnd fo sd i + 1))), (3, .int (nI i)), (0, .ref hn), (1, .int sd)]) hx hb dX1_countAnds_22 hl (k := 0) rfl (nI_add (cAnd fo sd i) 1) (by decide) rfl (fun ls hl => ?_)
          refine lv_iinc (v := nI (i + 1)) (lv' := [(3, .int (nI (i + 1))), (2, .int (nI (cAnd fo sd i + 1))), (0, .ref hn), (1, .int sd)]) hx hb dX1_countAnds_25 hl (k := 1) rfl (nI_add i 1) (by decide) rfl (fun ls hl => ?_)
          refine lv_goto (tgt := 4) hx hb dX1_countAnds_28 (by decide) ?_
          exact ih (i + 1) (by omega) (by omega) ls (by rw [show cAnd fo sd (i + 1) = cAnd fo sd i + 1 from by simp [cAnd, c2]]; exact lv_sub hl [1, 0, 2, 3] rfl)
  exact loop (cnt - 0 + 1) 0 (by omega) (by omega) ls (lv_sub hl [1, 0, 2, 3] rfl)
set_option maxHeartbeats 4000000 in
set_option maxRecDepth 100000 in
/-- how many nodes are their own first -/
theorem c_X1_countClasses (h1 : cnt ≤ 400) : Met l yX1_countClasses wsX1_countClasses { frames := 1, cells := 0, slots := 0, locals := 21 } (rd_P D [(cI, .int), (cJ, .long)] (nW hn ow fi ma ro cI cJ cnt len fo ff fk fr) [.ref hn]) (k2_QcV (.int (nI (cCls ff cnt)))) 0 0 (fun _ => False) := by
  refine Met.ofW (cc := cX1_countClasses) (maxL := 3) (ret := (some .int)) (by decide) rfl ?_
  intro p e s m args below meth c s₁ B hml hv
  obtain ⟨rfl, hP, hK⟩ := hv
  have hx := B.exec
  have hb := B.bytes
  have hr := B.returns
  have hts := atoms_spec (ws := wsX1_countClasses) B.pre
  have hown : s.vm.findClass RX1 = some m.cls := findClass_of_methodNamed B.named
  have hlocks := B.notSynchronized
  have hl := lv_entry ([.ref hn]) (n := 3) (Nat.le_of_ble_eq_true rfl)
  rw [lg_entry_eq]
  generalize (lg_sl ([.ref hn]) ++ List.replicate (3 - (lg_sl ([.ref hn])).length) Slot.unset).toArray = ls at hl ⊢
  have hl : lv_has ls 3 [(0, .ref hn)] := hl
  have hin1 : ∀ w ∈ wsX10, w ∈ wsX1_countClasses := by decide +kernel
  have kf11 := hts (.fieldLink RX1 11 "SweepEqual$Nodes" "count" "I") (by decide +kernel)
  refine lv_iconst (v := nI 0) hx hb dX1_countClasses_0 (by decide) ?_
  refine lv_istore_n (lv' := [(1, .int (nI 0)), (0, .ref hn)]) hx hb dX1_countClasses_1 rfl hl (by decide) rfl (fun ls hl => ?_)
  refine lv_iconst (v := nI 0) hx hb dX1_countClasses_2 (by decide) ?_
  refine lv_istore_n (lv' := [(2, .int (nI 0)), (1, .int (nI 0)), (0, .ref hn)]) hx hb dX1_countClasses_3 rfl hl (by decide) rfl (fun ls hl => ?_)
  have loop : ∀ (n : Nat) (i : Nat), i ≤ cnt → cnt - i < n → ∀ ls : Array Slot, lv_has ls 3 [(1, .int (nI (cCls ff i))), (2, .int (nI i)), (0, .ref hn)] → W p l e (headSpec wsX1_countClasses { frames := 1, cells := 0, slots := 0, locals := 21 }).room s m ([.ref hn] : List Value).toArray below meth c s.heap [] 0 0 (MQ below (k2_QcV (.int (nI (cCls ff cnt)))) ([.ref hn] : List Value).toArray s 0 0 (fun _ => False)) (F0 m 4 ls []) := by
    intro n
    induction n with
    | zero => intro i hi hM; exact absurd hM (Nat.not_lt_zero _)
    | succ n ih =>
      intro i hi hM ls hl
      have hc := cCls_le ff i
      refine lv_iload_n hx hb dX1_countClasses_4 rfl (lv_at hl 1 rfl) ?_
      refine lv_aload_n hx hb dX1_countClasses_5 rfl (lv_at hl 2 rfl) ?_
      refine va_get (D := D) (ci := 1) (v := .int (nI cnt)) (C := RX1) (T := TX1) (N := 5) hx hb hts hin1 hown hK hP 0 rfl rfl 0 (by decide) kf11 (fun _ h9 => h9) rfl dX1_countClasses_6 ?_
      refine lv_icmp_ge (tgt := 29) hx hb dX1_countClasses_9 (by decide) (fun c1 => ?_) (fun c1 => ?_)
      · have c1 : cnt ≤ i := (nI_leI (by omega) (by omega)).mp c1
        refine lv_iload_n hx hb dX1_countClasses_29 rfl (lv_at hl 0 rfl) ?_
        have hi2 : i = cnt := by omega
        exact rd_i hx hb hr hlocks dX1_countClasses_30 (by rw [hi2])
      · have c1 : ¬ (cnt ≤ i) := fun h => c1 ((nI_leI (by omega) (by omega)).mpr h)
        refine lv_aload_n hx hb dX1_countClasses_12 rfl (lv_at hl 2 rfl) ?_
        refine lv_iload_n hx hb dX1_countClasses_13 rfl (lv_at hl 1 rfl) ?_
        refine rd_V (As := [.int (nI i)]) (rest := []) ⟨hx, hb, hml, hown, hts⟩ (c_X1_isLeast l D cI cJ hn ow fi ma ro cnt len fo ff fk fr i (by omega)) (cwV 1 hts gX1_countClasses_X1_isLeast rfl rfl rfl (by decide +kernel) ⟨Nat.le_of_ble_eq_true rfl, Nat.le_of_ble_eq_true rfl⟩) (rd_pv (ci := 1) (q0 := 0) hK hP rfl rfl) rfl hl.1 rfl (Nat.le_of_ble_eq_true rfl) dX1_countClasses_14 ⟨Nat.zero_le _, Nat.zero_le _⟩ ?_
        refine lv_if_eq (tgt := 23) hx hb dX1_countClasses_17 (by decide) (fun c2 => ?_) (fun c2 => ?_)
        · have c2 : ¬ ff i = nI (2 * i) := by simpa using zI_eq0.mp c2
          refine lv_iinc (v := nI (i + 1)) (lv' := [(2, .int (nI (i + 1))), (1, .int (nI (cCls ff i))), (0, .ref hn)]) hx hb dX1_countClasses_23 hl (k := 1) rfl (nI_add i 1) (by decide) rfl (fun ls hl => ?_)
          refine lv_goto (tgt := 4) hx hb dX1_countClasses_26 (by decide) ?_
          exact ih (i + 1) (by omega) (by omega) ls (by rw [show cCls ff (i + 1) = cCls ff i from by simp [cCls, c2]]; exact lv_sub hl [1, 0, 2] rfl)
        · have c2 : ff i = nI (2 * i) := by simpa using fun h => c2 (zI_eq0.mpr h)
          refine lv_iinc (v := nI (cCls ff i + 1)) (lv' := [(1, .int (nI (cCls ff i + 1))), (2, .int (nI i)), (0, .ref hn)]) hx hb dX1_countClasses_20 hl (k := 0) rfl (nI_add (cCls ff i) 1) (by decide) rfl (fun ls hl => ?_)
          refine lv_iinc (v := nI (i + 1)) (lv' := [(2, .int (nI (i + 1))), (1, .int (nI (cCls ff i + 1))), (0, .ref hn)]) hx hb dX1_countClasses_23 hl (k := 1) rfl (nI_add i 1) (by decide) rfl (fun ls hl => ?_)
          refine lv_goto (tgt := 4) hx hb dX1_countClasses_26 (by decide) ?_
          exact ih (i + 1) (by omega) (by omega) ls (by rw [show cCls ff (i + 1) = cCls ff i + 1 from by simp [cCls, c2]]; exact lv_sub hl [1, 0, 2] rfl)
  exact loop (cnt - 0 + 1) 0 (by omega) (by omega) ls (lv_sub hl [1, 0, 2] rfl)
set_option maxHeartbeats 4000000 in
set_option maxRecDepth 100000 in
/-- how many ANDs of a side are not their own first -/
theorem c_X1_countMerged (sd : Int32) (h1 : cnt ≤ 400) : Met l yX1_countMerged wsX1_countMerged { frames := 1, cells := 0, slots := 0, locals := 21 } (rd_P D [(cI, .int), (cJ, .long)] (nW hn ow fi ma ro cI cJ cnt len fo ff fk fr) [.ref hn, .int sd]) (k2_QcV (.int (nI (cMer fo ff sd cnt)))) 0 0 (fun _ => False) := by
  refine Met.ofW (cc := cX1_countMerged) (maxL := 4) (ret := (some .int)) (by decide) rfl ?_
  intro p e s m args below meth c s₁ B hml hv
  obtain ⟨rfl, hP, hK⟩ := hv
  have hx := B.exec
  have hb := B.bytes
  have hr := B.returns
  have hts := atoms_spec (ws := wsX1_countMerged) B.pre
  have hown : s.vm.findClass RX1 = some m.cls := findClass_of_methodNamed B.named
  have hlocks := B.notSynchronized
  have hl := lv_entry ([.ref hn, .int sd]) (n := 4) (Nat.le_of_ble_eq_true rfl)
  rw [lg_entry_eq]
  generalize (lg_sl ([.ref hn, .int sd]) ++ List.replicate (4 - (lg_sl ([.ref hn, .int sd])).length) Slot.unset).toArray = ls at hl ⊢
  have hl : lv_has ls 4 [(0, .ref hn), (1, .int sd)] := hl
  have hin1 : ∀ w ∈ wsX10, w ∈ wsX1_countMerged := by decide +kernel
  have kf11 := hts (.fieldLink RX1 11 "SweepEqual$Nodes" "count" "I") (by decide +kernel)
  have kf15 := hts (.fieldLink RX1 15 "SweepEqual$Nodes" "owners" "[I") (by decide +kernel)
  refine lv_iconst (v := nI 0) hx hb dX1_countMerged_0 (by decide) ?_
  refine lv_istore_n (lv' := [(2, .int (nI 0)), (0, .ref hn), (1, .int sd)]) hx hb dX1_countMerged_1 rfl hl (by decide) rfl (fun ls hl => ?_)
  refine lv_iconst (v := nI 0) hx hb dX1_countMerged_2 (by decide) ?_
  refine lv_istore_n (lv' := [(3, .int (nI 0)), (2, .int (nI 0)), (0, .ref hn), (1, .int sd)]) hx hb dX1_countMerged_3 rfl hl (by decide) rfl (fun ls hl => ?_)
  have loop : ∀ (n : Nat) (i : Nat), i ≤ cnt → cnt - i < n → ∀ ls : Array Slot, lv_has ls 4 [(2, .int (nI (cMer fo ff sd i))), (3, .int (nI i)), (0, .ref hn), (1, .int sd)] → W p l e (headSpec wsX1_countMerged { frames := 1, cells := 0, slots := 0, locals := 21 }).room s m ([.ref hn, .int sd] : List Value).toArray below meth c s.heap [] 0 0 (MQ below (k2_QcV (.int (nI (cMer fo ff sd cnt)))) ([.ref hn, .int sd] : List Value).toArray s 0 0 (fun _ => False)) (F0 m 4 ls []) := by
    intro n
    induction n with
    | zero => intro i hi hM; exact absurd hM (Nat.not_lt_zero _)
    | succ n ih =>
      intro i hi hM ls hl
      have hc := cMer_le fo ff sd i
      refine lv_iload_n hx hb dX1_countMerged_4 rfl (lv_at hl 1 rfl) ?_
      refine lv_aload_n hx hb dX1_countMerged_5 rfl (lv_at hl 2 rfl) ?_
      refine va_get (D := D) (ci := 1) (v := .int (nI cnt)) (C := RX1) (T := TX1) (N := 5) hx hb hts hin1 hown hK hP 0 rfl rfl 0 (by decide) kf11 (fun _ h9 => h9) rfl dX1_countMerged_6 ?_
      refine lv_icmp_ge (tgt := 39) hx hb dX1_countMerged_9 (by decide) (fun c1 => ?_) (fun c1 => ?_)
      · have c1 : cnt ≤ i := (nI_leI (by omega) (by omega)).mp c1
        refine lv_iload_n hx hb dX1_countMerged_39 rfl (lv_at hl 0 rfl) ?_
        have hi2 : i = cnt := by omega
        exact rd_i hx hb hr hlocks dX1_countMerged_40 (by rw [hi2])
      · have c1 : ¬ (cnt ≤ i) := fun h => c1 ((nI_leI (by omega) (by omega)).mpr h)
        refine lv_aload_n hx hb dX1_countMerged_12 rfl (lv_at hl 2 rfl) ?_
        refine va_get (D := D) (ci := 1) (v := .ref ow) (C := RX1) (T := TX1) (N := 5) hx hb hts hin1 hown hK hP 0 rfl rfl 1 (by decide) kf15 (fun _ h9 => h9) rfl dX1_countMerged_13 ?_
        refine lv_iload_n hx hb dX1_countMerged_16 rfl (lv_at hl 1 rfl) ?_
        refine va_iald hx hb hK hP 1 0 rfl rfl (vp_in_nI (by omega) (by omega)) dX1_countMerged_17 ?_
        refine tp_i (show fo (nI i).toNatClampNeg = fo i from congrArg fo (nI_clamp (by omega))) ?_
        refine lv_iload_n hx hb dX1_countMerged_18 rfl (lv_at hl 3 rfl) ?_
        refine lv_icmp_ne (tgt := 33) hx hb dX1_countMerged_19 (by decide) (fun c2 => ?_) (fun c2 => ?_)
        · refine lv_iinc (v := nI (i + 1)) (lv' := [(3, .int (nI (i + 1))), (2, .int (nI (cMer fo ff sd i))), (0, .ref hn), (1, .int sd)]) hx hb dX1_countMerged_33 hl (k := 1) rfl (nI_add i 1) (by decide) rfl (fun ls hl => ?_)
          refine lv_goto (tgt := 4) hx hb dX1_countMerged_36 (by decide) ?_
          exact ih (i + 1) (by omega) (by omega) ls (by rw [show cMer fo ff sd (i + 1) = cMer fo ff sd i from by simp [cMer, c2]]; exact lv_sub hl [1, 0, 2, 3] rfl)
        · refine lv_aload_n hx hb dX1_countMerged_22 rfl (lv_at hl 2 rfl) ?_
          refine lv_iload_n hx hb dX1_countMerged_23 rfl (lv_at hl 1 rfl) ?_
          refine rd_V (As := [.int (nI i)]) (rest := []) ⟨hx, hb, hml, hown, hts⟩ (c_X1_isLeast l D cI cJ hn ow fi ma ro cnt len fo ff fk fr i (by omega)) (cwV 1 hts gX1_countMerged_X1_isLeast rfl rfl rfl (by decide +kernel) ⟨Nat.le_of_ble_eq_true rfl, Nat.le_of_ble_eq_true rfl⟩) (rd_pv (ci := 1) (q0 := 0) hK hP rfl rfl) rfl hl.1 rfl (Nat.le_of_ble_eq_true rfl) dX1_countMerged_24 ⟨Nat.zero_le _, Nat.zero_le _⟩ ?_
          refine lv_if_ne (tgt := 33) hx hb dX1_countMerged_27 (by decide) (fun c3 => ?_) (fun c3 => ?_)
          · have c3 : ff i = nI (2 * i) := by simpa using fun h => c3 (zI_eq0.mpr h)
            refine lv_iinc (v := nI (i + 1)) (lv' := [(3, .int (nI (i + 1))), (2, .int (nI (cMer fo ff sd i))), (0, .ref hn), (1, .int sd)]) hx hb dX1_countMerged_33 hl (k := 1) rfl (nI_add i 1) (by decide) rfl (fun ls hl => ?_)
            refine lv_goto (tgt := 4) hx hb dX1_countMerged_36 (by decide) ?_
            exact ih (i + 1) (by omega) (by omega) ls (by rw [show cMer fo ff sd (i + 1) = cMer fo ff sd i from by simp [cMer, c3]]; exact lv_sub hl [1, 0, 2, 3] rfl)
          · have c3 : ¬ ff i = nI (2 * i) := by simpa using zI_eq0.mp c3
            refine lv_iinc (v := nI (cMer fo ff sd i + 1)) (lv' := [(2, .int (nI (cMer fo ff sd i + 1))), (3, .int (nI i)), (0, .ref hn), (1, .int sd)]) hx hb dX1_countMerged_30 hl (k := 0) rfl (nI_add (cMer fo ff sd i) 1) (by decide) rfl (fun ls hl => ?_)
            refine lv_iinc (v := nI (i + 1)) (lv' := [(3, .int (nI (i + 1))), (2, .int (nI (cMer fo ff sd i + 1))), (0, .ref hn), (1, .int sd)]) hx hb dX1_countMerged_33 hl (k := 1) rfl (nI_add i 1) (by decide) rfl (fun ls hl => ?_)
            refine lv_goto (tgt := 4) hx hb dX1_countMerged_36 (by decide) ?_
            exact ih (i + 1) (by omega) (by omega) ls (by rw [show cMer fo ff sd (i + 1) = cMer fo ff sd i + 1 from by simp [cMer, c2, c3]]; exact lv_sub hl [1, 0, 2, 3] rfl)
  exact loop (cnt - 0 + 1) 0 (by omega) (by omega) ls (lv_sub hl [1, 0, 2, 3] rfl)
end RC
