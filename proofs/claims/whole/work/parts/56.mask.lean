/-! The model: same, first, classes, merged, hangs, ones, value. -/
theorem or_ab (a b : Nat) (q : Prop) {d : Decidable q} : (a ||| @ite Nat q d b 0) ||| b = a ||| b := by
  by_cases h : q
  · rw [if_pos h, Nat.or_assoc, Nat.or_self]
  · rw [if_neg h, Nat.or_zero]
section MW3
variable (l : Launch) (D : va_G) (cI cJ : ClassId) (tp : Nat) (hm q0 q1 q2 q3 q4 q5 q6 q7 q8 q9 : Nat) (th : Int32) (nd : Nat) (fs : Nat → Int32) (ft : Nat → Int64) (mi ml : Nat) (fl : Nat → Int32) (gS gX gT gC gO : Nat → Nat) (fD : Nat → Int32) (gE : Nat → Nat) (sp : Nat) (fa : Int32)
set_option maxHeartbeats 4000000 in
set_option maxRecDepth 100000 in
/-- same -/
theorem w_X3_same (la lb : Nat) (h1 : la < 2 * nd) (h2 : lb < 2 * nd) (hnd : nd ≤ 400) (sz : Nat) : Met l yX3_same wsX3_same { frames := 1, cells := 0, slots := 0, locals := 25 } (wr_P D [(cI, .int), (cJ, .long)] (mW hm q0 q1 q2 q3 q4 q5 q6 q7 q8 q9 cI cJ th nd fs ft mi ml fl gS gX gT gC gO fD gE sp fa) sz tp [.ref hm, .int (nI la), .int (nI lb)]) (wx (Su := Unit) D [(cI, .int), (cJ, .long)] (va_A (mW hm q0 q1 q2 q3 q4 q5 q6 q7 q8 q9 cI cJ th nd fs ft mi ml fl gS gX gT gC gO fD gE sp fa) sz) (fun _ => some (.int (zI (smF ft la lb)))) (fun _ => True) (fun _ => mW hm q0 q1 q2 q3 q4 q5 q6 q7 q8 q9 cI cJ (nI 0) nd fs ft mi ml fl gS gX gT gC gO fD gE sp fa)) 0 0 (va_A (mW hm q0 q1 q2 q3 q4 q5 q6 q7 q8 q9 cI cJ th nd fs ft mi ml fl gS gX gT gC gO fD gE sp fa) sz) := by
  refine Met.ofW (cc := cX3_same) (maxL := 3) (ret := (some .boolean)) (by decide) rfl ?_
  intro p e s m args below meth c s₁ B hml hv
  obtain ⟨rfl, hsz, ⟨hP, hK, hD0⟩, hE⟩ := hv
  have hx := B.exec
  have hb := B.bytes
  have hr := B.returns
  have hts := atoms_spec (ws := wsX3_same) B.pre
  have hown : s.vm.findClass RX3 = some m.cls := findClass_of_methodNamed B.named
  have hlocks := B.notSynchronized
  subst hsz
  have hD := hD0.self (sz := s.heap.size)
  generalize hAe : va_A (mW hm q0 q1 q2 q3 q4 q5 q6 q7 q8 q9 cI cJ th nd fs ft mi ml fl gS gX gT gC gO fD gE sp fa) s.heap.size = A at hD hE ⊢
  have hA : ∀ q : Nat, s.heap.size ≤ q → A q := fun q h => by rw [← hAe]; exact Or.inr h
  have hS : va_S A s.heap s.heap [] := va_S.rf
  have hP : va_P D vwCl [(hm, .inr (3, [.int th, .int (nI nd), .ref q0, .ref q1, .int (nI mi), .int (nI ml), .ref q2, .ref q3, .ref q4, .ref q5, .ref q6, .ref q7, .ref q8, .ref q9, .int (nI sp), .int fa])), (q0, .inl (cI, 401, .inl fs)), (q1, .inl (cJ, 25664, .inr (.inl ft))), (q2, .inl (cI, 4, .inl fl)), (q3, .inl (cI, 8, .inl (fun j => nI (gS j)))), (q4, .inl (cI, 8, .inl (fun j => nI (gX j)))), (q5, .inl (cI, 8, .inl (fun j => nI (gT j)))), (q6, .inl (cI, 2, .inl (fun j => nI (gC j)))), (q7, .inl (cI, 32, .inl (fun j => nI (gO j)))), (q8, .inl (cI, 32, .inl fD)), (q9, .inl (cI, 2, .inl (fun j => nI (gE j))))] s.heap := hP
  have hD : va_D A [(hm, .inr (3, [.int th, .int (nI nd), .ref q0, .ref q1, .int (nI mi), .int (nI ml), .ref q2, .ref q3, .ref q4, .ref q5, .ref q6, .ref q7, .ref q8, .ref q9, .int (nI sp), .int fa])), (q0, .inl (cI, 401, .inl fs)), (q1, .inl (cJ, 25664, .inr (.inl ft))), (q2, .inl (cI, 4, .inl fl)), (q3, .inl (cI, 8, .inl (fun j => nI (gS j)))), (q4, .inl (cI, 8, .inl (fun j => nI (gX j)))), (q5, .inl (cI, 8, .inl (fun j => nI (gT j)))), (q6, .inl (cI, 2, .inl (fun j => nI (gC j)))), (q7, .inl (cI, 32, .inl (fun j => nI (gO j)))), (q8, .inl (cI, 32, .inl fD)), (q9, .inl (cI, 2, .inl (fun j => nI (gE j))))] := hD
  have hl := lv_entry ([.ref hm, .int (nI la), .int (nI lb)]) (n := 3) (Nat.le_of_ble_eq_true rfl)
  rw [lg_entry_eq]
  generalize (lg_sl ([.ref hm, .int (nI la), .int (nI lb)]) ++ List.replicate (3 - (lg_sl ([.ref hm, .int (nI la), .int (nI lb)])).length) Slot.unset).toArray = ls at hl ⊢
  have hl : lv_has ls 3 [(0, .ref hm), (1, .int (nI la)), (2, .int (nI lb))] := hl
  have hin3 : ∀ w ∈ wsX30, w ∈ wsX3_same := by decide +kernel
  have kf44 := hts (.fieldLink RX3 44 "SweepEqualModel" "thrown" "I") (by decide +kernel)
  refine lv_aload_n hx hb dX3_same_0 rfl (lv_at hl 0 rfl) ?_
  refine lv_aload_n hx hb dX3_same_1 rfl (lv_at hl 0 rfl) ?_
  refine lv_iload_n hx hb dX3_same_2 rfl (lv_at hl 1 rfl) ?_
  refine rd_V (As := [.int (nI la)]) (rest := [.ref hm]) ⟨hx, hb, hml, hown, hts⟩ (c_X3_isLiteral l D cI cJ hm q0 q1 q2 q3 q4 q5 q6 q7 q8 q9 th nd fs ft mi ml fl gS gX gT gC gO fD gE sp fa (nI la)) (cwV 1 hts gX3_same_X3_isLiteral rfl rfl rfl (by decide +kernel) ⟨Nat.le_of_ble_eq_true rfl, Nat.le_of_ble_eq_true rfl⟩) (rd_pv (ci := 3) (q0 := 0) hK hP rfl rfl) rfl hl.1 rfl (Nat.le_of_ble_eq_true rfl) dX3_same_3 ⟨by show _ ≤ _; simp only [headSpec]; omega, by show _ ≤ _; simp only [headSpec]; omega⟩ ?_
  refine tp_i (show zI (decide (¬ nI la < 0 ∧ ¬ nI (2 * nd) ≤ nI la)) = nI 1 from lit_t h1 (by omega)) ?_
  refine lv_if_eq (tgt := 21) hx hb dX3_same_6 (by decide) (fun hc => absurd hc (by decide)) (fun _ => ?_)
  refine lv_aload_n hx hb dX3_same_9 rfl (lv_at hl 0 rfl) ?_
  refine lv_iload_n hx hb dX3_same_10 rfl (lv_at hl 2 rfl) ?_
  refine rd_V (As := [.int (nI lb)]) (rest := [.ref hm]) ⟨hx, hb, hml, hown, hts⟩ (c_X3_isLiteral l D cI cJ hm q0 q1 q2 q3 q4 q5 q6 q7 q8 q9 th nd fs ft mi ml fl gS gX gT gC gO fD gE sp fa (nI lb)) (cwV 1 hts gX3_same_X3_isLiteral rfl rfl rfl (by decide +kernel) ⟨Nat.le_of_ble_eq_true rfl, Nat.le_of_ble_eq_true rfl⟩) (rd_pv (ci := 3) (q0 := 0) hK hP rfl rfl) rfl hl.1 rfl (Nat.le_of_ble_eq_true rfl) dX3_same_11 ⟨by show _ ≤ _; simp only [headSpec]; omega, by show _ ≤ _; simp only [headSpec]; omega⟩ ?_
  refine tp_i (show zI (decide (¬ nI lb < 0 ∧ ¬ nI (2 * nd) ≤ nI lb)) = nI 1 from lit_t h2 (by omega)) ?_
  refine lv_if_eq (tgt := 21) hx hb dX3_same_14 (by decide) (fun hc => absurd hc (by decide)) (fun _ => ?_)
  refine lv_iconst (v := nI 0) hx hb dX3_same_17 (by decide) ?_
  refine lv_goto (tgt := 22) hx hb dX3_same_18 (by decide) ?_
  refine va_put (D := D) (ci := 3) (v := .int (nI 0)) (ty := .int) (C := RX3) (T := TX3) (N := 16) hx hb hts hin3 tyX3 tyX3_ok nmX3 hown hK hP hD hS 0 rfl rfl 0 (by decide) kf44 (fun _ h9 => h9) rfl (by decide +kernel) rfl rfl (Nat.le_of_ble_eq_true rfl) dX3_same_22 (fun H locs hP hD hS => ?_)
  have hP : va_P D vwCl [(hm, .inr (3, [.int (nI 0), .int (nI nd), .ref q0, .ref q1, .int (nI mi), .int (nI ml), .ref q2, .ref q3, .ref q4, .ref q5, .ref q6, .ref q7, .ref q8, .ref q9, .int (nI sp), .int fa])), (q0, .inl (cI, 401, .inl fs)), (q1, .inl (cJ, 25664, .inr (.inl ft))), (q2, .inl (cI, 4, .inl fl)), (q3, .inl (cI, 8, .inl (fun j => nI (gS j)))), (q4, .inl (cI, 8, .inl (fun j => nI (gX j)))), (q5, .inl (cI, 8, .inl (fun j => nI (gT j)))), (q6, .inl (cI, 2, .inl (fun j => nI (gC j)))), (q7, .inl (cI, 32, .inl (fun j => nI (gO j)))), (q8, .inl (cI, 32, .inl fD)), (q9, .inl (cI, 2, .inl (fun j => nI (gE j))))] H := hP
  have hD : va_D A [(hm, .inr (3, [.int (nI 0), .int (nI nd), .ref q0, .ref q1, .int (nI mi), .int (nI ml), .ref q2, .ref q3, .ref q4, .ref q5, .ref q6, .ref q7, .ref q8, .ref q9, .int (nI sp), .int fa])), (q0, .inl (cI, 401, .inl fs)), (q1, .inl (cJ, 25664, .inr (.inl ft))), (q2, .inl (cI, 4, .inl fl)), (q3, .inl (cI, 8, .inl (fun j => nI (gS j)))), (q4, .inl (cI, 8, .inl (fun j => nI (gX j)))), (q5, .inl (cI, 8, .inl (fun j => nI (gT j)))), (q6, .inl (cI, 2, .inl (fun j => nI (gC j)))), (q7, .inl (cI, 32, .inl (fun j => nI (gO j)))), (q8, .inl (cI, 32, .inl fD)), (q9, .inl (cI, 2, .inl (fun j => nI (gE j))))] := hD
  refine lv_aload_n hx hb dX3_same_25 rfl (lv_at hl 0 rfl) ?_
  refine va_get (D := D) (ci := 3) (v := .int (nI 0)) (C := RX3) (T := TX3) (N := 16) hx hb hts hin3 hown hK hP 0 rfl rfl 0 (by decide) kf44 (fun _ h9 => h9) rfl dX3_same_26 ?_
  refine lv_if_ne (tgt := 45) hx hb dX3_same_29 (by decide) (fun hc => absurd hc (by decide)) (fun _ => ?_)
  refine lv_aload_n hx hb dX3_same_32 rfl (lv_at hl 0 rfl) ?_
  refine lv_iload_n hx hb dX3_same_33 rfl (lv_at hl 1 rfl) ?_
  refine lv_iload_n hx hb dX3_same_34 rfl (lv_at hl 2 rfl) ?_
  refine rd_V (As := [.int (nI la), .int (nI lb)]) (rest := []) ⟨hx, hb, hml, hown, hts⟩ (c_X3_areSame l D cI cJ hm q0 q1 q2 q3 q4 q5 q6 q7 q8 q9 (nI 0) nd fs ft mi ml fl gS gX gT gC gO fD gE sp fa la lb (by omega) (by omega)) (cwV 2 hts gX3_same_X3_areSame rfl rfl rfl (by decide +kernel) ⟨Nat.le_of_ble_eq_true rfl, Nat.le_of_ble_eq_true rfl⟩) (rd_pv (ci := 3) (q0 := 0) hK hP rfl rfl) rfl hl.1 rfl (Nat.le_of_ble_eq_true rfl) dX3_same_35 ⟨by show _ ≤ _; simp only [headSpec]; omega, by show _ ≤ _; simp only [headSpec]; omega⟩ ?_
  refine lv_if_eq (tgt := 45) hx hb dX3_same_38 (by decide) (fun c1 => ?_) (fun c1 => ?_)
  · refine lv_iconst (v := nI 0) hx hb dX3_same_45 (by decide) ?_
    exact wr_z (()) hx hb hr hlocks hP hD hS dX3_same_46 (by rw [zI_eq0.mp c1]; rfl) (trivial) (by decide)
  · have c1 : smF ft la lb = true := by simpa using fun h => c1 (zI_eq0.mpr h)
    refine lv_iconst (v := nI 1) hx hb dX3_same_41 (by decide) ?_
    refine lv_goto (tgt := 46) hx hb dX3_same_42 (by decide) ?_
    exact wr_z (()) hx hb hr hlocks hP hD hS dX3_same_46 (by rw [c1]; rfl) (trivial) (by decide)
set_option maxHeartbeats 4000000 in
set_option maxRecDepth 100000 in
/-- same: no such literal -/
theorem w_X3_sameB (x y : Int32) (hb0 : (x < 0 ∨ nI (2 * nd) ≤ x) ∨ (y < 0 ∨ nI (2 * nd) ≤ y)) (sz : Nat) : Met l yX3_same wsX3_same { frames := 1, cells := 0, slots := 0, locals := 25 } (wr_P D [(cI, .int), (cJ, .long)] (mW hm q0 q1 q2 q3 q4 q5 q6 q7 q8 q9 cI cJ th nd fs ft mi ml fl gS gX gT gC gO fD gE sp fa) sz tp [.ref hm, .int x, .int y]) (wx (Su := Unit) D [(cI, .int), (cJ, .long)] (va_A (mW hm q0 q1 q2 q3 q4 q5 q6 q7 q8 q9 cI cJ th nd fs ft mi ml fl gS gX gT gC gO fD gE sp fa) sz) (fun _ => some (.int (nI 0))) (fun _ => True) (fun _ => mW hm q0 q1 q2 q3 q4 q5 q6 q7 q8 q9 cI cJ (nI 1) nd fs ft mi ml fl gS gX gT gC gO fD gE sp fa)) 0 0 (va_A (mW hm q0 q1 q2 q3 q4 q5 q6 q7 q8 q9 cI cJ th nd fs ft mi ml fl gS gX gT gC gO fD gE sp fa) sz) := by
  refine Met.ofW (cc := cX3_same) (maxL := 3) (ret := (some .boolean)) (by decide) rfl ?_
  intro p e s m args below meth c s₁ B hml hv
  obtain ⟨rfl, hsz, ⟨hP, hK, hD0⟩, hE⟩ := hv
  have hx := B.exec
  have hb := B.bytes
  have hr := B.returns
  have hts := atoms_spec (ws := wsX3_same) B.pre
  have hown : s.vm.findClass RX3 = some m.cls := findClass_of_methodNamed B.named
  have hlocks := B.notSynchronized
  subst hsz
  have hD := hD0.self (sz := s.heap.size)
  generalize hAe : va_A (mW hm q0 q1 q2 q3 q4 q5 q6 q7 q8 q9 cI cJ th nd fs ft mi ml fl gS gX gT gC gO fD gE sp fa) s.heap.size = A at hD hE ⊢
  have hA : ∀ q : Nat, s.heap.size ≤ q → A q := fun q h => by rw [← hAe]; exact Or.inr h
  have hS : va_S A s.heap s.heap [] := va_S.rf
  have hP : va_P D vwCl [(hm, .inr (3, [.int th, .int (nI nd), .ref q0, .ref q1, .int (nI mi), .int (nI ml), .ref q2, .ref q3, .ref q4, .ref q5, .ref q6, .ref q7, .ref q8, .ref q9, .int (nI sp), .int fa])), (q0, .inl (cI, 401, .inl fs)), (q1, .inl (cJ, 25664, .inr (.inl ft))), (q2, .inl (cI, 4, .inl fl)), (q3, .inl (cI, 8, .inl (fun j => nI (gS j)))), (q4, .inl (cI, 8, .inl (fun j => nI (gX j)))), (q5, .inl (cI, 8, .inl (fun j => nI (gT j)))), (q6, .inl (cI, 2, .inl (fun j => nI (gC j)))), (q7, .inl (cI, 32, .inl (fun j => nI (gO j)))), (q8, .inl (cI, 32, .inl fD)), (q9, .inl (cI, 2, .inl (fun j => nI (gE j))))] s.heap := hP
  have hD : va_D A [(hm, .inr (3, [.int th, .int (nI nd), .ref q0, .ref q1, .int (nI mi), .int (nI ml), .ref q2, .ref q3, .ref q4, .ref q5, .ref q6, .ref q7, .ref q8, .ref q9, .int (nI sp), .int fa])), (q0, .inl (cI, 401, .inl fs)), (q1, .inl (cJ, 25664, .inr (.inl ft))), (q2, .inl (cI, 4, .inl fl)), (q3, .inl (cI, 8, .inl (fun j => nI (gS j)))), (q4, .inl (cI, 8, .inl (fun j => nI (gX j)))), (q5, .inl (cI, 8, .inl (fun j => nI (gT j)))), (q6, .inl (cI, 2, .inl (fun j => nI (gC j)))), (q7, .inl (cI, 32, .inl (fun j => nI (gO j)))), (q8, .inl (cI, 32, .inl fD)), (q9, .inl (cI, 2, .inl (fun j => nI (gE j))))] := hD
  have hl := lv_entry ([.ref hm, .int x, .int y]) (n := 3) (Nat.le_of_ble_eq_true rfl)
  rw [lg_entry_eq]
  generalize (lg_sl ([.ref hm, .int x, .int y]) ++ List.replicate (3 - (lg_sl ([.ref hm, .int x, .int y])).length) Slot.unset).toArray = ls at hl ⊢
  have hl : lv_has ls 3 [(0, .ref hm), (1, .int x), (2, .int y)] := hl
  have hin3 : ∀ w ∈ wsX30, w ∈ wsX3_same := by decide +kernel
  have kf44 := hts (.fieldLink RX3 44 "SweepEqualModel" "thrown" "I") (by decide +kernel)
  refine lv_aload_n hx hb dX3_same_0 rfl (lv_at hl 0 rfl) ?_
  refine lv_aload_n hx hb dX3_same_1 rfl (lv_at hl 0 rfl) ?_
  refine lv_iload_n hx hb dX3_same_2 rfl (lv_at hl 1 rfl) ?_
  refine rd_V (As := [.int x]) (rest := [.ref hm]) ⟨hx, hb, hml, hown, hts⟩ (c_X3_isLiteral l D cI cJ hm q0 q1 q2 q3 q4 q5 q6 q7 q8 q9 th nd fs ft mi ml fl gS gX gT gC gO fD gE sp fa x) (cwV 1 hts gX3_same_X3_isLiteral rfl rfl rfl (by decide +kernel) ⟨Nat.le_of_ble_eq_true rfl, Nat.le_of_ble_eq_true rfl⟩) (rd_pv (ci := 3) (q0 := 0) hK hP rfl rfl) rfl hl.1 rfl (Nat.le_of_ble_eq_true rfl) dX3_same_3 ⟨by show _ ≤ _; simp only [headSpec]; omega, by show _ ≤ _; simp only [headSpec]; omega⟩ ?_
  refine lv_if_eq (tgt := 21) hx hb dX3_same_6 (by decide) (fun c1 => ?_) (fun c1 => ?_)
  · refine lv_iconst (v := nI 1) hx hb dX3_same_21 (by decide) ?_
    refine va_put (D := D) (ci := 3) (v := .int (nI 1)) (ty := .int) (C := RX3) (T := TX3) (N := 16) hx hb hts hin3 tyX3 tyX3_ok nmX3 hown hK hP hD hS 0 rfl rfl 0 (by decide) kf44 (fun _ h9 => h9) rfl (by decide +kernel) rfl rfl (Nat.le_of_ble_eq_true rfl) dX3_same_22 (fun H locs hP hD hS => ?_)
    have hP : va_P D vwCl [(hm, .inr (3, [.int (nI 1), .int (nI nd), .ref q0, .ref q1, .int (nI mi), .int (nI ml), .ref q2, .ref q3, .ref q4, .ref q5, .ref q6, .ref q7, .ref q8, .ref q9, .int (nI sp), .int fa])), (q0, .inl (cI, 401, .inl fs)), (q1, .inl (cJ, 25664, .inr (.inl ft))), (q2, .inl (cI, 4, .inl fl)), (q3, .inl (cI, 8, .inl (fun j => nI (gS j)))), (q4, .inl (cI, 8, .inl (fun j => nI (gX j)))), (q5, .inl (cI, 8, .inl (fun j => nI (gT j)))), (q6, .inl (cI, 2, .inl (fun j => nI (gC j)))), (q7, .inl (cI, 32, .inl (fun j => nI (gO j)))), (q8, .inl (cI, 32, .inl fD)), (q9, .inl (cI, 2, .inl (fun j => nI (gE j))))] H := hP
    have hD : va_D A [(hm, .inr (3, [.int (nI 1), .int (nI nd), .ref q0, .ref q1, .int (nI mi), .int (nI ml), .ref q2, .ref q3, .ref q4, .ref q5, .ref q6, .ref q7, .ref q8, .ref q9, .int (nI sp), .int fa])), (q0, .inl (cI, 401, .inl fs)), (q1, .inl (cJ, 25664, .inr (.inl ft))), (q2, .inl (cI, 4, .inl fl)), (q3, .inl (cI, 8, .inl (fun j => nI (gS j)))), (q4, .inl (cI, 8, .inl (fun j => nI (gX j)))), (q5, .inl (cI, 8, .inl (fun j => nI (gT j)))), (q6, .inl (cI, 2, .inl (fun j => nI (gC j)))), (q7, .inl (cI, 32, .inl (fun j => nI (gO j)))), (q8, .inl (cI, 32, .inl fD)), (q9, .inl (cI, 2, .inl (fun j => nI (gE j))))] := hD
    refine lv_aload_n hx hb dX3_same_25 rfl (lv_at hl 0 rfl) ?_
    refine va_get (D := D) (ci := 3) (v := .int (nI 1)) (C := RX3) (T := TX3) (N := 16) hx hb hts hin3 hown hK hP 0 rfl rfl 0 (by decide) kf44 (fun _ h9 => h9) rfl dX3_same_26 ?_
    refine lv_if_ne (tgt := 45) hx hb dX3_same_29 (by decide) (fun _ => ?_) (fun hc => absurd hc (by decide))
    refine lv_iconst (v := nI 0) hx hb dX3_same_45 (by decide) ?_
    exact wr_z (()) hx hb hr hlocks hP hD hS dX3_same_46 (rfl) (trivial) (by decide)
  · refine lv_aload_n hx hb dX3_same_9 rfl (lv_at hl 0 rfl) ?_
    refine lv_iload_n hx hb dX3_same_10 rfl (lv_at hl 2 rfl) ?_
    refine rd_V (As := [.int y]) (rest := [.ref hm]) ⟨hx, hb, hml, hown, hts⟩ (c_X3_isLiteral l D cI cJ hm q0 q1 q2 q3 q4 q5 q6 q7 q8 q9 th nd fs ft mi ml fl gS gX gT gC gO fD gE sp fa y) (cwV 1 hts gX3_same_X3_isLiteral rfl rfl rfl (by decide +kernel) ⟨Nat.le_of_ble_eq_true rfl, Nat.le_of_ble_eq_true rfl⟩) (rd_pv (ci := 3) (q0 := 0) hK hP rfl rfl) rfl hl.1 rfl (Nat.le_of_ble_eq_true rfl) dX3_same_11 ⟨by show _ ≤ _; simp only [headSpec]; omega, by show _ ≤ _; simp only [headSpec]; omega⟩ ?_
    refine lv_if_eq (tgt := 21) hx hb dX3_same_14 (by decide) (fun c2 => ?_) (fun c2 => ?_)
    · refine lv_iconst (v := nI 1) hx hb dX3_same_21 (by decide) ?_
      refine va_put (D := D) (ci := 3) (v := .int (nI 1)) (ty := .int) (C := RX3) (T := TX3) (N := 16) hx hb hts hin3 tyX3 tyX3_ok nmX3 hown hK hP hD hS 0 rfl rfl 0 (by decide) kf44 (fun _ h9 => h9) rfl (by decide +kernel) rfl rfl (Nat.le_of_ble_eq_true rfl) dX3_same_22 (fun H locs hP hD hS => ?_)
      have hP : va_P D vwCl [(hm, .inr (3, [.int (nI 1), .int (nI nd), .ref q0, .ref q1, .int (nI mi), .int (nI ml), .ref q2, .ref q3, .ref q4, .ref q5, .ref q6, .ref q7, .ref q8, .ref q9, .int (nI sp), .int fa])), (q0, .inl (cI, 401, .inl fs)), (q1, .inl (cJ, 25664, .inr (.inl ft))), (q2, .inl (cI, 4, .inl fl)), (q3, .inl (cI, 8, .inl (fun j => nI (gS j)))), (q4, .inl (cI, 8, .inl (fun j => nI (gX j)))), (q5, .inl (cI, 8, .inl (fun j => nI (gT j)))), (q6, .inl (cI, 2, .inl (fun j => nI (gC j)))), (q7, .inl (cI, 32, .inl (fun j => nI (gO j)))), (q8, .inl (cI, 32, .inl fD)), (q9, .inl (cI, 2, .inl (fun j => nI (gE j))))] H := hP
      have hD : va_D A [(hm, .inr (3, [.int (nI 1), .int (nI nd), .ref q0, .ref q1, .int (nI mi), .int (nI ml), .ref q2, .ref q3, .ref q4, .ref q5, .ref q6, .ref q7, .ref q8, .ref q9, .int (nI sp), .int fa])), (q0, .inl (cI, 401, .inl fs)), (q1, .inl (cJ, 25664, .inr (.inl ft))), (q2, .inl (cI, 4, .inl fl)), (q3, .inl (cI, 8, .inl (fun j => nI (gS j)))), (q4, .inl (cI, 8, .inl (fun j => nI (gX j)))), (q5, .inl (cI, 8, .inl (fun j => nI (gT j)))), (q6, .inl (cI, 2, .inl (fun j => nI (gC j)))), (q7, .inl (cI, 32, .inl (fun j => nI (gO j)))), (q8, .inl (cI, 32, .inl fD)), (q9, .inl (cI, 2, .inl (fun j => nI (gE j))))] := hD
      refine lv_aload_n hx hb dX3_same_25 rfl (lv_at hl 0 rfl) ?_
      refine va_get (D := D) (ci := 3) (v := .int (nI 1)) (C := RX3) (T := TX3) (N := 16) hx hb hts hin3 hown hK hP 0 rfl rfl 0 (by decide) kf44 (fun _ h9 => h9) rfl dX3_same_26 ?_
      refine lv_if_ne (tgt := 45) hx hb dX3_same_29 (by decide) (fun _ => ?_) (fun hc => absurd hc (by decide))
      refine lv_iconst (v := nI 0) hx hb dX3_same_45 (by decide) ?_
      exact wr_z (()) hx hb hr hlocks hP hD hS dX3_same_46 (rfl) (trivial) (by decide)
    · exact (hb0.elim (fun q => q.elim (zd_t c1).1 (zd_t c1).2) (fun q => q.elim (zd_t c2).1 (zd_t c2).2)).elim
set_option maxHeartbeats 4000000 in
set_option maxRecDepth 100000 in
/-- first -/
theorem w_X3_first (lit : Nat) (h1 : lit < 2 * nd) (hnd : nd ≤ 400) (sz : Nat) : Met l yX3_first wsX3_first { frames := 2, cells := 0, slots := 0, locals := 47 } (wr_P D [(cI, .int), (cJ, .long)] (mW hm q0 q1 q2 q3 q4 q5 q6 q7 q8 q9 cI cJ th nd fs ft mi ml fl gS gX gT gC gO fD gE sp fa) sz tp [.ref hm, .int (nI lit)]) (wx (Su := Unit) D [(cI, .int), (cJ, .long)] (va_A (mW hm q0 q1 q2 q3 q4 q5 q6 q7 q8 q9 cI cJ th nd fs ft mi ml fl gS gX gT gC gO fD gE sp fa) sz) (fun _ => some (.int (nI (fmF ft lit lit 0)))) (fun _ => True) (fun _ => mW hm q0 q1 q2 q3 q4 q5 q6 q7 q8 q9 cI cJ (nI 0) nd fs ft mi ml fl gS gX gT gC gO fD gE sp fa)) 0 0 (va_A (mW hm q0 q1 q2 q3 q4 q5 q6 q7 q8 q9 cI cJ th nd fs ft mi ml fl gS gX gT gC gO fD gE sp fa) sz) := by
  refine Met.ofW (cc := cX3_first) (maxL := 2) (ret := (some .int)) (by decide) rfl ?_
  intro p e s m args below meth c s₁ B hml hv
  obtain ⟨rfl, hsz, ⟨hP, hK, hD0⟩, hE⟩ := hv
  have hx := B.exec
  have hb := B.bytes
  have hr := B.returns
  have hts := atoms_spec (ws := wsX3_first) B.pre
  have hown : s.vm.findClass RX3 = some m.cls := findClass_of_methodNamed B.named
  have hlocks := B.notSynchronized
  subst hsz
  have hD := hD0.self (sz := s.heap.size)
  generalize hAe : va_A (mW hm q0 q1 q2 q3 q4 q5 q6 q7 q8 q9 cI cJ th nd fs ft mi ml fl gS gX gT gC gO fD gE sp fa) s.heap.size = A at hD hE ⊢
  have hA : ∀ q : Nat, s.heap.size ≤ q → A q := fun q h => by rw [← hAe]; exact Or.inr h
  have hS : va_S A s.heap s.heap [] := va_S.rf
  have hP : va_P D vwCl [(hm, .inr (3, [.int th, .int (nI nd), .ref q0, .ref q1, .int (nI mi), .int (nI ml), .ref q2, .ref q3, .ref q4, .ref q5, .ref q6, .ref q7, .ref q8, .ref q9, .int (nI sp), .int fa])), (q0, .inl (cI, 401, .inl fs)), (q1, .inl (cJ, 25664, .inr (.inl ft))), (q2, .inl (cI, 4, .inl fl)), (q3, .inl (cI, 8, .inl (fun j => nI (gS j)))), (q4, .inl (cI, 8, .inl (fun j => nI (gX j)))), (q5, .inl (cI, 8, .inl (fun j => nI (gT j)))), (q6, .inl (cI, 2, .inl (fun j => nI (gC j)))), (q7, .inl (cI, 32, .inl (fun j => nI (gO j)))), (q8, .inl (cI, 32, .inl fD)), (q9, .inl (cI, 2, .inl (fun j => nI (gE j))))] s.heap := hP
  have hD : va_D A [(hm, .inr (3, [.int th, .int (nI nd), .ref q0, .ref q1, .int (nI mi), .int (nI ml), .ref q2, .ref q3, .ref q4, .ref q5, .ref q6, .ref q7, .ref q8, .ref q9, .int (nI sp), .int fa])), (q0, .inl (cI, 401, .inl fs)), (q1, .inl (cJ, 25664, .inr (.inl ft))), (q2, .inl (cI, 4, .inl fl)), (q3, .inl (cI, 8, .inl (fun j => nI (gS j)))), (q4, .inl (cI, 8, .inl (fun j => nI (gX j)))), (q5, .inl (cI, 8, .inl (fun j => nI (gT j)))), (q6, .inl (cI, 2, .inl (fun j => nI (gC j)))), (q7, .inl (cI, 32, .inl (fun j => nI (gO j)))), (q8, .inl (cI, 32, .inl fD)), (q9, .inl (cI, 2, .inl (fun j => nI (gE j))))] := hD
  have hl := lv_entry ([.ref hm, .int (nI lit)]) (n := 2) (Nat.le_of_ble_eq_true rfl)
  rw [lg_entry_eq]
  generalize (lg_sl ([.ref hm, .int (nI lit)]) ++ List.replicate (2 - (lg_sl ([.ref hm, .int (nI lit)])).length) Slot.unset).toArray = ls at hl ⊢
  have hl : lv_has ls 2 [(0, .ref hm), (1, .int (nI lit))] := hl
  have hin3 : ∀ w ∈ wsX30, w ∈ wsX3_first := by decide +kernel
  have kf44 := hts (.fieldLink RX3 44 "SweepEqualModel" "thrown" "I") (by decide +kernel)
  refine lv_aload_n hx hb dX3_first_0 rfl (lv_at hl 0 rfl) ?_
  refine lv_aload_n hx hb dX3_first_1 rfl (lv_at hl 0 rfl) ?_
  refine lv_iload_n hx hb dX3_first_2 rfl (lv_at hl 1 rfl) ?_
  refine rd_V (As := [.int (nI lit)]) (rest := [.ref hm]) ⟨hx, hb, hml, hown, hts⟩ (c_X3_isLiteral l D cI cJ hm q0 q1 q2 q3 q4 q5 q6 q7 q8 q9 th nd fs ft mi ml fl gS gX gT gC gO fD gE sp fa (nI lit)) (cwV 1 hts gX3_first_X3_isLiteral rfl rfl rfl (by decide +kernel) ⟨Nat.le_of_ble_eq_true rfl, Nat.le_of_ble_eq_true rfl⟩) (rd_pv (ci := 3) (q0 := 0) hK hP rfl rfl) rfl hl.1 rfl (Nat.le_of_ble_eq_true rfl) dX3_first_3 ⟨by show _ ≤ _; simp only [headSpec]; omega, by show _ ≤ _; simp only [headSpec]; omega⟩ ?_
  refine tp_i (show zI (decide (¬ nI lit < 0 ∧ ¬ nI (2 * nd) ≤ nI lit)) = nI 1 from lit_t h1 (by omega)) ?_
  refine lv_if_eq (tgt := 13) hx hb dX3_first_6 (by decide) (fun hc => absurd hc (by decide)) (fun _ => ?_)
  refine lv_iconst (v := nI 0) hx hb dX3_first_9 (by decide) ?_
  refine lv_goto (tgt := 14) hx hb dX3_first_10 (by decide) ?_
  refine va_put (D := D) (ci := 3) (v := .int (nI 0)) (ty := .int) (C := RX3) (T := TX3) (N := 16) hx hb hts hin3 tyX3 tyX3_ok nmX3 hown hK hP hD hS 0 rfl rfl 0 (by decide) kf44 (fun _ h9 => h9) rfl (by decide +kernel) rfl rfl (Nat.le_of_ble_eq_true rfl) dX3_first_14 (fun H locs hP hD hS => ?_)
  have hP : va_P D vwCl [(hm, .inr (3, [.int (nI 0), .int (nI nd), .ref q0, .ref q1, .int (nI mi), .int (nI ml), .ref q2, .ref q3, .ref q4, .ref q5, .ref q6, .ref q7, .ref q8, .ref q9, .int (nI sp), .int fa])), (q0, .inl (cI, 401, .inl fs)), (q1, .inl (cJ, 25664, .inr (.inl ft))), (q2, .inl (cI, 4, .inl fl)), (q3, .inl (cI, 8, .inl (fun j => nI (gS j)))), (q4, .inl (cI, 8, .inl (fun j => nI (gX j)))), (q5, .inl (cI, 8, .inl (fun j => nI (gT j)))), (q6, .inl (cI, 2, .inl (fun j => nI (gC j)))), (q7, .inl (cI, 32, .inl (fun j => nI (gO j)))), (q8, .inl (cI, 32, .inl fD)), (q9, .inl (cI, 2, .inl (fun j => nI (gE j))))] H := hP
  have hD : va_D A [(hm, .inr (3, [.int (nI 0), .int (nI nd), .ref q0, .ref q1, .int (nI mi), .int (nI ml), .ref q2, .ref q3, .ref q4, .ref q5, .ref q6, .ref q7, .ref q8, .ref q9, .int (nI sp), .int fa])), (q0, .inl (cI, 401, .inl fs)), (q1, .inl (cJ, 25664, .inr (.inl ft))), (q2, .inl (cI, 4, .inl fl)), (q3, .inl (cI, 8, .inl (fun j => nI (gS j)))), (q4, .inl (cI, 8, .inl (fun j => nI (gX j)))), (q5, .inl (cI, 8, .inl (fun j => nI (gT j)))), (q6, .inl (cI, 2, .inl (fun j => nI (gC j)))), (q7, .inl (cI, 32, .inl (fun j => nI (gO j)))), (q8, .inl (cI, 32, .inl fD)), (q9, .inl (cI, 2, .inl (fun j => nI (gE j))))] := hD
  refine lv_aload_n hx hb dX3_first_17 rfl (lv_at hl 0 rfl) ?_
  refine va_get (D := D) (ci := 3) (v := .int (nI 0)) (C := RX3) (T := TX3) (N := 16) hx hb hts hin3 hown hK hP 0 rfl rfl 0 (by decide) kf44 (fun _ h9 => h9) rfl dX3_first_18 ?_
  refine lv_if_le (tgt := 28) hx hb dX3_first_21 (by decide) (fun _ => ?_) (fun hc => absurd hc (by decide))
  refine lv_aload_n hx hb dX3_first_28 rfl (lv_at hl 0 rfl) ?_
  refine lv_iload_n hx hb dX3_first_29 rfl (lv_at hl 1 rfl) ?_
  refine rd_V (As := [.int (nI lit)]) (rest := []) ⟨hx, hb, hml, hown, hts⟩ (c_X3_firstOf l D cI cJ hm q0 q1 q2 q3 q4 q5 q6 q7 q8 q9 (nI 0) nd fs ft mi ml fl gS gX gT gC gO fD gE sp fa lit (by omega)) (cwV 1 hts gX3_first_X3_firstOf rfl rfl rfl (by decide +kernel) ⟨Nat.le_of_ble_eq_true rfl, Nat.le_of_ble_eq_true rfl⟩) (rd_pv (ci := 3) (q0 := 0) hK hP rfl rfl) rfl hl.1 rfl (Nat.le_of_ble_eq_true rfl) dX3_first_30 ⟨by show _ ≤ _; simp only [headSpec]; omega, by show _ ≤ _; simp only [headSpec]; omega⟩ ?_
  exact wr_i (()) hx hb hr hlocks hP hD hS dX3_first_33 (rfl) (trivial)
set_option maxHeartbeats 4000000 in
set_option maxRecDepth 100000 in
/-- first: no such literal -/
theorem w_X3_firstB (x : Int32) (hb0 : (x < 0 ∨ nI (2 * nd) ≤ x)) (sz : Nat) : Met l yX3_first wsX3_first { frames := 2, cells := 0, slots := 0, locals := 47 } (wr_P D [(cI, .int), (cJ, .long)] (mW hm q0 q1 q2 q3 q4 q5 q6 q7 q8 q9 cI cJ th nd fs ft mi ml fl gS gX gT gC gO fD gE sp fa) sz tp [.ref hm, .int x]) (wx (Su := Unit) D [(cI, .int), (cJ, .long)] (va_A (mW hm q0 q1 q2 q3 q4 q5 q6 q7 q8 q9 cI cJ th nd fs ft mi ml fl gS gX gT gC gO fD gE sp fa) sz) (fun _ => some (.int (nI 0))) (fun _ => True) (fun _ => mW hm q0 q1 q2 q3 q4 q5 q6 q7 q8 q9 cI cJ (nI 1) nd fs ft mi ml fl gS gX gT gC gO fD gE sp fa)) 0 0 (va_A (mW hm q0 q1 q2 q3 q4 q5 q6 q7 q8 q9 cI cJ th nd fs ft mi ml fl gS gX gT gC gO fD gE sp fa) sz) := by
  refine Met.ofW (cc := cX3_first) (maxL := 2) (ret := (some .int)) (by decide) rfl ?_
  intro p e s m args below meth c s₁ B hml hv
  obtain ⟨rfl, hsz, ⟨hP, hK, hD0⟩, hE⟩ := hv
  have hx := B.exec
  have hb := B.bytes
  have hr := B.returns
  have hts := atoms_spec (ws := wsX3_first) B.pre
  have hown : s.vm.findClass RX3 = some m.cls := findClass_of_methodNamed B.named
  have hlocks := B.notSynchronized
  subst hsz
  have hD := hD0.self (sz := s.heap.size)
  generalize hAe : va_A (mW hm q0 q1 q2 q3 q4 q5 q6 q7 q8 q9 cI cJ th nd fs ft mi ml fl gS gX gT gC gO fD gE sp fa) s.heap.size = A at hD hE ⊢
  have hA : ∀ q : Nat, s.heap.size ≤ q → A q := fun q h => by rw [← hAe]; exact Or.inr h
  have hS : va_S A s.heap s.heap [] := va_S.rf
  have hP : va_P D vwCl [(hm, .inr (3, [.int th, .int (nI nd), .ref q0, .ref q1, .int (nI mi), .int (nI ml), .ref q2, .ref q3, .ref q4, .ref q5, .ref q6, .ref q7, .ref q8, .ref q9, .int (nI sp), .int fa])), (q0, .inl (cI, 401, .inl fs)), (q1, .inl (cJ, 25664, .inr (.inl ft))), (q2, .inl (cI, 4, .inl fl)), (q3, .inl (cI, 8, .inl (fun j => nI (gS j)))), (q4, .inl (cI, 8, .inl (fun j => nI (gX j)))), (q5, .inl (cI, 8, .inl (fun j => nI (gT j)))), (q6, .inl (cI, 2, .inl (fun j => nI (gC j)))), (q7, .inl (cI, 32, .inl (fun j => nI (gO j)))), (q8, .inl (cI, 32, .inl fD)), (q9, .inl (cI, 2, .inl (fun j => nI (gE j))))] s.heap := hP
  have hD : va_D A [(hm, .inr (3, [.int th, .int (nI nd), .ref q0, .ref q1, .int (nI mi), .int (nI ml), .ref q2, .ref q3, .ref q4, .ref q5, .ref q6, .ref q7, .ref q8, .ref q9, .int (nI sp), .int fa])), (q0, .inl (cI, 401, .inl fs)), (q1, .inl (cJ, 25664, .inr (.inl ft))), (q2, .inl (cI, 4, .inl fl)), (q3, .inl (cI, 8, .inl (fun j => nI (gS j)))), (q4, .inl (cI, 8, .inl (fun j => nI (gX j)))), (q5, .inl (cI, 8, .inl (fun j => nI (gT j)))), (q6, .inl (cI, 2, .inl (fun j => nI (gC j)))), (q7, .inl (cI, 32, .inl (fun j => nI (gO j)))), (q8, .inl (cI, 32, .inl fD)), (q9, .inl (cI, 2, .inl (fun j => nI (gE j))))] := hD
  have hl := lv_entry ([.ref hm, .int x]) (n := 2) (Nat.le_of_ble_eq_true rfl)
  rw [lg_entry_eq]
  generalize (lg_sl ([.ref hm, .int x]) ++ List.replicate (2 - (lg_sl ([.ref hm, .int x])).length) Slot.unset).toArray = ls at hl ⊢
  have hl : lv_has ls 2 [(0, .ref hm), (1, .int x)] := hl
  have hin3 : ∀ w ∈ wsX30, w ∈ wsX3_first := by decide +kernel
  have kf44 := hts (.fieldLink RX3 44 "SweepEqualModel" "thrown" "I") (by decide +kernel)
  refine lv_aload_n hx hb dX3_first_0 rfl (lv_at hl 0 rfl) ?_
  refine lv_aload_n hx hb dX3_first_1 rfl (lv_at hl 0 rfl) ?_
  refine lv_iload_n hx hb dX3_first_2 rfl (lv_at hl 1 rfl) ?_
  refine rd_V (As := [.int x]) (rest := [.ref hm]) ⟨hx, hb, hml, hown, hts⟩ (c_X3_isLiteral l D cI cJ hm q0 q1 q2 q3 q4 q5 q6 q7 q8 q9 th nd fs ft mi ml fl gS gX gT gC gO fD gE sp fa x) (cwV 1 hts gX3_first_X3_isLiteral rfl rfl rfl (by decide +kernel) ⟨Nat.le_of_ble_eq_true rfl, Nat.le_of_ble_eq_true rfl⟩) (rd_pv (ci := 3) (q0 := 0) hK hP rfl rfl) rfl hl.1 rfl (Nat.le_of_ble_eq_true rfl) dX3_first_3 ⟨by show _ ≤ _; simp only [headSpec]; omega, by show _ ≤ _; simp only [headSpec]; omega⟩ ?_
  refine tp_i (show zI (decide (¬ x < 0 ∧ ¬ nI (2 * nd) ≤ x)) = nI 0 from lit_f hb0) ?_
  refine lv_if_eq (tgt := 13) hx hb dX3_first_6 (by decide) (fun _ => ?_) (fun hc => absurd hc (by decide))
  refine lv_iconst (v := nI 1) hx hb dX3_first_13 (by decide) ?_
  refine va_put (D := D) (ci := 3) (v := .int (nI 1)) (ty := .int) (C := RX3) (T := TX3) (N := 16) hx hb hts hin3 tyX3 tyX3_ok nmX3 hown hK hP hD hS 0 rfl rfl 0 (by decide) kf44 (fun _ h9 => h9) rfl (by decide +kernel) rfl rfl (Nat.le_of_ble_eq_true rfl) dX3_first_14 (fun H locs hP hD hS => ?_)
  have hP : va_P D vwCl [(hm, .inr (3, [.int (nI 1), .int (nI nd), .ref q0, .ref q1, .int (nI mi), .int (nI ml), .ref q2, .ref q3, .ref q4, .ref q5, .ref q6, .ref q7, .ref q8, .ref q9, .int (nI sp), .int fa])), (q0, .inl (cI, 401, .inl fs)), (q1, .inl (cJ, 25664, .inr (.inl ft))), (q2, .inl (cI, 4, .inl fl)), (q3, .inl (cI, 8, .inl (fun j => nI (gS j)))), (q4, .inl (cI, 8, .inl (fun j => nI (gX j)))), (q5, .inl (cI, 8, .inl (fun j => nI (gT j)))), (q6, .inl (cI, 2, .inl (fun j => nI (gC j)))), (q7, .inl (cI, 32, .inl (fun j => nI (gO j)))), (q8, .inl (cI, 32, .inl fD)), (q9, .inl (cI, 2, .inl (fun j => nI (gE j))))] H := hP
  have hD : va_D A [(hm, .inr (3, [.int (nI 1), .int (nI nd), .ref q0, .ref q1, .int (nI mi), .int (nI ml), .ref q2, .ref q3, .ref q4, .ref q5, .ref q6, .ref q7, .ref q8, .ref q9, .int (nI sp), .int fa])), (q0, .inl (cI, 401, .inl fs)), (q1, .inl (cJ, 25664, .inr (.inl ft))), (q2, .inl (cI, 4, .inl fl)), (q3, .inl (cI, 8, .inl (fun j => nI (gS j)))), (q4, .inl (cI, 8, .inl (fun j => nI (gX j)))), (q5, .inl (cI, 8, .inl (fun j => nI (gT j)))), (q6, .inl (cI, 2, .inl (fun j => nI (gC j)))), (q7, .inl (cI, 32, .inl (fun j => nI (gO j)))), (q8, .inl (cI, 32, .inl fD)), (q9, .inl (cI, 2, .inl (fun j => nI (gE j))))] := hD
  refine lv_aload_n hx hb dX3_first_17 rfl (lv_at hl 0 rfl) ?_
  refine va_get (D := D) (ci := 3) (v := .int (nI 1)) (C := RX3) (T := TX3) (N := 16) hx hb hts hin3 hown hK hP 0 rfl rfl 0 (by decide) kf44 (fun _ h9 => h9) rfl dX3_first_18 ?_
  refine lv_if_le (tgt := 28) hx hb dX3_first_21 (by decide) (fun hc => absurd hc (by decide)) (fun _ => ?_)
  refine lv_iconst (v := nI 0) hx hb dX3_first_24 (by decide) ?_
  refine lv_goto (tgt := 33) hx hb dX3_first_25 (by decide) ?_
  exact wr_i (()) hx hb hr hlocks hP hD hS dX3_first_33 (rfl) (trivial)
set_option maxHeartbeats 4000000 in
set_option maxRecDepth 100000 in
/-- classes -/
theorem w_X3_classes (hnd : nd ≤ 400) (sz : Nat) : Met l yX3_classes wsX3_classes { frames := 2, cells := 0, slots := 0, locals := 47 } (wr_P D [(cI, .int), (cJ, .long)] (mW hm q0 q1 q2 q3 q4 q5 q6 q7 q8 q9 cI cJ th nd fs ft mi ml fl gS gX gT gC gO fD gE sp fa) sz tp [.ref hm]) (wx (Su := Unit) D [(cI, .int), (cJ, .long)] (va_A (mW hm q0 q1 q2 q3 q4 q5 q6 q7 q8 q9 cI cJ th nd fs ft mi ml fl gS gX gT gC gO fD gE sp fa) sz) (fun _ => some (.int (nI (cM ft nd)))) (fun _ => True) (fun _ => mW hm q0 q1 q2 q3 q4 q5 q6 q7 q8 q9 cI cJ (nI 0) nd fs ft mi ml fl gS gX gT gC gO fD gE sp fa)) 0 0 (va_A (mW hm q0 q1 q2 q3 q4 q5 q6 q7 q8 q9 cI cJ th nd fs ft mi ml fl gS gX gT gC gO fD gE sp fa) sz) := by
  refine Met.ofW (cc := cX3_classes) (maxL := 3) (ret := (some .int)) (by decide) rfl ?_
  intro p e s m args below meth c s₁ B hml hv
  obtain ⟨rfl, hsz, ⟨hP, hK, hD0⟩, hE⟩ := hv
  have hx := B.exec
  have hb := B.bytes
  have hr := B.returns
  have hts := atoms_spec (ws := wsX3_classes) B.pre
  have hown : s.vm.findClass RX3 = some m.cls := findClass_of_methodNamed B.named
  have hlocks := B.notSynchronized
  subst hsz
  have hD := hD0.self (sz := s.heap.size)
  generalize hAe : va_A (mW hm q0 q1 q2 q3 q4 q5 q6 q7 q8 q9 cI cJ th nd fs ft mi ml fl gS gX gT gC gO fD gE sp fa) s.heap.size = A at hD hE ⊢
  have hA : ∀ q : Nat, s.heap.size ≤ q → A q := fun q h => by rw [← hAe]; exact Or.inr h
  have hS : va_S A s.heap s.heap [] := va_S.rf
  have hP : va_P D vwCl [(hm, .inr (3, [.int th, .int (nI nd), .ref q0, .ref q1, .int (nI mi), .int (nI ml), .ref q2, .ref q3, .ref q4, .ref q5, .ref q6, .ref q7, .ref q8, .ref q9, .int (nI sp), .int fa])), (q0, .inl (cI, 401, .inl fs)), (q1, .inl (cJ, 25664, .inr (.inl ft))), (q2, .inl (cI, 4, .inl fl)), (q3, .inl (cI, 8, .inl (fun j => nI (gS j)))), (q4, .inl (cI, 8, .inl (fun j => nI (gX j)))), (q5, .inl (cI, 8, .inl (fun j => nI (gT j)))), (q6, .inl (cI, 2, .inl (fun j => nI (gC j)))), (q7, .inl (cI, 32, .inl (fun j => nI (gO j)))), (q8, .inl (cI, 32, .inl fD)), (q9, .inl (cI, 2, .inl (fun j => nI (gE j))))] s.heap := hP
  have hD : va_D A [(hm, .inr (3, [.int th, .int (nI nd), .ref q0, .ref q1, .int (nI mi), .int (nI ml), .ref q2, .ref q3, .ref q4, .ref q5, .ref q6, .ref q7, .ref q8, .ref q9, .int (nI sp), .int fa])), (q0, .inl (cI, 401, .inl fs)), (q1, .inl (cJ, 25664, .inr (.inl ft))), (q2, .inl (cI, 4, .inl fl)), (q3, .inl (cI, 8, .inl (fun j => nI (gS j)))), (q4, .inl (cI, 8, .inl (fun j => nI (gX j)))), (q5, .inl (cI, 8, .inl (fun j => nI (gT j)))), (q6, .inl (cI, 2, .inl (fun j => nI (gC j)))), (q7, .inl (cI, 32, .inl (fun j => nI (gO j)))), (q8, .inl (cI, 32, .inl fD)), (q9, .inl (cI, 2, .inl (fun j => nI (gE j))))] := hD
  have hl := lv_entry ([.ref hm]) (n := 3) (Nat.le_of_ble_eq_true rfl)
  rw [lg_entry_eq]
  generalize (lg_sl ([.ref hm]) ++ List.replicate (3 - (lg_sl ([.ref hm])).length) Slot.unset).toArray = ls at hl ⊢
  have hl : lv_has ls 3 [(0, .ref hm)] := hl
  have hin3 : ∀ w ∈ wsX30, w ∈ wsX3_classes := by decide +kernel
  have kf44 := hts (.fieldLink RX3 44 "SweepEqualModel" "thrown" "I") (by decide +kernel)
  have kf48 := hts (.fieldLink RX3 48 "SweepEqualModel" "nodes" "I") (by decide +kernel)
  refine lv_aload_n hx hb dX3_classes_0 rfl (lv_at hl 0 rfl) ?_
  refine lv_iconst (v := nI 0) hx hb dX3_classes_1 (by decide) ?_
  refine va_put (D := D) (ci := 3) (v := .int (nI 0)) (ty := .int) (C := RX3) (T := TX3) (N := 16) hx hb hts hin3 tyX3 tyX3_ok nmX3 hown hK hP hD hS 0 rfl rfl 0 (by decide) kf44 (fun _ h9 => h9) rfl (by decide +kernel) rfl rfl (Nat.le_of_ble_eq_true rfl) dX3_classes_2 (fun H locs hP hD hS => ?_)
  have hP : va_P D vwCl [(hm, .inr (3, [.int (nI 0), .int (nI nd), .ref q0, .ref q1, .int (nI mi), .int (nI ml), .ref q2, .ref q3, .ref q4, .ref q5, .ref q6, .ref q7, .ref q8, .ref q9, .int (nI sp), .int fa])), (q0, .inl (cI, 401, .inl fs)), (q1, .inl (cJ, 25664, .inr (.inl ft))), (q2, .inl (cI, 4, .inl fl)), (q3, .inl (cI, 8, .inl (fun j => nI (gS j)))), (q4, .inl (cI, 8, .inl (fun j => nI (gX j)))), (q5, .inl (cI, 8, .inl (fun j => nI (gT j)))), (q6, .inl (cI, 2, .inl (fun j => nI (gC j)))), (q7, .inl (cI, 32, .inl (fun j => nI (gO j)))), (q8, .inl (cI, 32, .inl fD)), (q9, .inl (cI, 2, .inl (fun j => nI (gE j))))] H := hP
  have hD : va_D A [(hm, .inr (3, [.int (nI 0), .int (nI nd), .ref q0, .ref q1, .int (nI mi), .int (nI ml), .ref q2, .ref q3, .ref q4, .ref q5, .ref q6, .ref q7, .ref q8, .ref q9, .int (nI sp), .int fa])), (q0, .inl (cI, 401, .inl fs)), (q1, .inl (cJ, 25664, .inr (.inl ft))), (q2, .inl (cI, 4, .inl fl)), (q3, .inl (cI, 8, .inl (fun j => nI (gS j)))), (q4, .inl (cI, 8, .inl (fun j => nI (gX j)))), (q5, .inl (cI, 8, .inl (fun j => nI (gT j)))), (q6, .inl (cI, 2, .inl (fun j => nI (gC j)))), (q7, .inl (cI, 32, .inl (fun j => nI (gO j)))), (q8, .inl (cI, 32, .inl fD)), (q9, .inl (cI, 2, .inl (fun j => nI (gE j))))] := hD
  refine lv_iconst (v := nI 0) hx hb dX3_classes_5 (by decide) ?_
  refine lv_istore_n (lv' := [(1, .int (nI 0)), (0, .ref hm)]) hx hb dX3_classes_6 rfl hl (by decide) rfl (fun ls hl => ?_)
  refine lv_iconst (v := nI 0) hx hb dX3_classes_7 (by decide) ?_
  refine lv_istore_n (lv' := [(2, .int (nI 0)), (1, .int (nI 0)), (0, .ref hm)]) hx hb dX3_classes_8 rfl hl (by decide) rfl (fun ls hl => ?_)
  have loop : ∀ (n : Nat) (i : Nat), i ≤ nd → nd - i < n → ∀ (H : Heap) (locs : List Loc) (ls : Array Slot), va_P D vwCl [(hm, .inr (3, [.int (nI 0), .int (nI nd), .ref q0, .ref q1, .int (nI mi), .int (nI ml), .ref q2, .ref q3, .ref q4, .ref q5, .ref q6, .ref q7, .ref q8, .ref q9, .int (nI sp), .int fa])), (q0, .inl (cI, 401, .inl fs)), (q1, .inl (cJ, 25664, .inr (.inl ft))), (q2, .inl (cI, 4, .inl fl)), (q3, .inl (cI, 8, .inl (fun j => nI (gS j)))), (q4, .inl (cI, 8, .inl (fun j => nI (gX j)))), (q5, .inl (cI, 8, .inl (fun j => nI (gT j)))), (q6, .inl (cI, 2, .inl (fun j => nI (gC j)))), (q7, .inl (cI, 32, .inl (fun j => nI (gO j)))), (q8, .inl (cI, 32, .inl fD)), (q9, .inl (cI, 2, .inl (fun j => nI (gE j))))] H → va_D A [(hm, .inr (3, [.int (nI 0), .int (nI nd), .ref q0, .ref q1, .int (nI mi), .int (nI ml), .ref q2, .ref q3, .ref q4, .ref q5, .ref q6, .ref q7, .ref q8, .ref q9, .int (nI sp), .int fa])), (q0, .inl (cI, 401, .inl fs)), (q1, .inl (cJ, 25664, .inr (.inl ft))), (q2, .inl (cI, 4, .inl fl)), (q3, .inl (cI, 8, .inl (fun j => nI (gS j)))), (q4, .inl (cI, 8, .inl (fun j => nI (gX j)))), (q5, .inl (cI, 8, .inl (fun j => nI (gT j)))), (q6, .inl (cI, 2, .inl (fun j => nI (gC j)))), (q7, .inl (cI, 32, .inl (fun j => nI (gO j)))), (q8, .inl (cI, 32, .inl fD)), (q9, .inl (cI, 2, .inl (fun j => nI (gE j))))] → va_S A s.heap H locs → lv_has ls 3 [(2, .int (nI i)), (1, .int (nI (cM ft i))), (0, .ref hm)] → W p l e (headSpec wsX3_classes { frames := 2, cells := 0, slots := 0, locals := 47 }).room s m ([.ref hm] : List Value).toArray below meth c H locs 0 0 (MQ below (wx (Su := Unit) D [(cI, .int), (cJ, .long)] A (fun _ => some (.int (nI (cM ft nd)))) (fun _ => True) (fun _ => mW hm q0 q1 q2 q3 q4 q5 q6 q7 q8 q9 cI cJ (nI 0) nd fs ft mi ml fl gS gX gT gC gO fD gE sp fa)) ([.ref hm] : List Value).toArray s 0 0 A) (F0 m 9 ls []) := by
    intro n
    induction n with
    | zero => intro i hi hM; exact absurd hM (Nat.not_lt_zero _)
    | succ n ih =>
      intro i hi hM H locs ls hP hD hS hl
      refine lv_iload_n hx hb dX3_classes_9 rfl (lv_at hl 0 rfl) ?_
      refine lv_aload_n hx hb dX3_classes_10 rfl (lv_at hl 2 rfl) ?_
      refine va_get (D := D) (ci := 3) (v := .int (nI nd)) (C := RX3) (T := TX3) (N := 16) hx hb hts hin3 hown hK hP 0 rfl rfl 1 (by decide) kf48 (fun _ h9 => h9) rfl dX3_classes_11 ?_
      refine lv_icmp_ge (tgt := 39) hx hb dX3_classes_14 (by decide) (fun c1 => ?_) (fun c1 => ?_)
      · have c1 : nd ≤ i := (nI_leI (by omega) (by omega)).mp c1
        have hi2 : i = nd := by omega
        refine lv_iload_n hx hb dX3_classes_39 rfl (lv_at hl 1 rfl) ?_
        exact wr_i (()) hx hb hr hlocks hP hD hS dX3_classes_40 (by rw [hi2]) (trivial)
      · have c1 : ¬ (nd ≤ i) := fun h => c1 ((nI_leI (by omega) (by omega)).mpr h)
        refine lv_aload_n hx hb dX3_classes_17 rfl (lv_at hl 2 rfl) ?_
        refine lv_iload_n hx hb dX3_classes_18 rfl (lv_at hl 0 rfl) ?_
        refine rd_V (As := [.int (nI i)]) (rest := []) ⟨hx, hb, hml, hown, hts⟩ (c_X3_isLeast l D cI cJ hm q0 q1 q2 q3 q4 q5 q6 q7 q8 q9 (nI 0) nd fs ft mi ml fl gS gX gT gC gO fD gE sp fa i (by omega)) (cwV 1 hts gX3_classes_X3_isLeast rfl rfl rfl (by decide +kernel) ⟨Nat.le_of_ble_eq_true rfl, Nat.le_of_ble_eq_true rfl⟩) (rd_pv (ci := 3) (q0 := 0) hK hP rfl rfl) rfl hl.1 rfl (Nat.le_of_ble_eq_true rfl) dX3_classes_19 ⟨by show _ ≤ _; simp only [headSpec]; omega, by show _ ≤ _; simp only [headSpec]; omega⟩ ?_
        refine lv_if_eq (tgt := 31) hx hb dX3_classes_22 (by decide) (fun c2 => ?_) (fun c2 => ?_)
        · have c2 := zI_eq0.mp c2
          refine lv_iload_n hx hb dX3_classes_31 rfl (lv_at hl 1 rfl) ?_
          refine lv_istore_n (lv' := [(1, .int (nI (cM ft i))), (2, .int (nI i)), (0, .ref hm)]) hx hb dX3_classes_32 rfl hl (by decide) rfl (fun ls hl => ?_)
          refine lv_iinc (v := nI (i + 1)) (lv' := [(2, .int (nI (i + 1))), (1, .int (nI (cM ft i))), (0, .ref hm)]) hx hb dX3_classes_33 hl (k := 1) rfl (nI_add i 1) (by decide) rfl (fun ls hl => ?_)
          refine lv_goto (tgt := 9) hx hb dX3_classes_36 (by decide) ?_
          exact ih (i + 1) (by omega) (by omega) _ _ ls hP hD hS (by rw [show cM ft (i + 1) = cM ft i from by simp [cM, c2]]; exact lv_sub hl [0, 1, 2] rfl)
        · have c2 : lsF ft i = true := by simpa using fun h => c2 (zI_eq0.mpr h)
          refine lv_iload_n hx hb dX3_classes_25 rfl (lv_at hl 1 rfl) ?_
          refine lv_iconst (v := nI 1) hx hb dX3_classes_26 (by decide) ?_
          refine lv_iadd hx hb dX3_classes_27 ?_
          refine tp_i (show (nI (cM ft i)) + (nI 1) = nI (cM ft i + 1) from nI_add _ _) ?_
          refine lv_goto (tgt := 32) hx hb dX3_classes_28 (by decide) ?_
          refine lv_istore_n (lv' := [(1, .int (nI (cM ft i + 1))), (2, .int (nI i)), (0, .ref hm)]) hx hb dX3_classes_32 rfl hl (by decide) rfl (fun ls hl => ?_)
          refine lv_iinc (v := nI (i + 1)) (lv' := [(2, .int (nI (i + 1))), (1, .int (nI (cM ft i + 1))), (0, .ref hm)]) hx hb dX3_classes_33 hl (k := 1) rfl (nI_add i 1) (by decide) rfl (fun ls hl => ?_)
          refine lv_goto (tgt := 9) hx hb dX3_classes_36 (by decide) ?_
          exact ih (i + 1) (by omega) (by omega) _ _ ls hP hD hS (by rw [show cM ft (i + 1) = cM ft i + 1 from by simp [cM, c2]]; exact lv_sub hl [0, 1, 2] rfl)
  exact loop (nd - 0 + 1) 0 (by omega) (by omega) _ _ ls hP hD hS (lv_sub hl [0, 1, 2] rfl)
set_option maxHeartbeats 4000000 in
set_option maxRecDepth 100000 in
/-- merged -/
theorem w_X3_merged (sd : Int32) (hs : sd = 0 ∨ sd = 1) (hnd : nd ≤ 400) (sz : Nat) : Met l yX3_merged wsX3_merged { frames := 2, cells := 0, slots := 0, locals := 47 } (wr_P D [(cI, .int), (cJ, .long)] (mW hm q0 q1 q2 q3 q4 q5 q6 q7 q8 q9 cI cJ th nd fs ft mi ml fl gS gX gT gC gO fD gE sp fa) sz tp [.ref hm, .int sd]) (wx (Su := Unit) D [(cI, .int), (cJ, .long)] (va_A (mW hm q0 q1 q2 q3 q4 q5 q6 q7 q8 q9 cI cJ th nd fs ft mi ml fl gS gX gT gC gO fD gE sp fa) sz) (fun _ => some (.int (nI (mM fs ft sd nd)))) (fun _ => True) (fun _ => mW hm q0 q1 q2 q3 q4 q5 q6 q7 q8 q9 cI cJ (nI 0) nd fs ft mi ml fl gS gX gT gC gO fD gE sp fa)) 0 0 (va_A (mW hm q0 q1 q2 q3 q4 q5 q6 q7 q8 q9 cI cJ th nd fs ft mi ml fl gS gX gT gC gO fD gE sp fa) sz) := by
  refine Met.ofW (cc := cX3_merged) (maxL := 4) (ret := (some .int)) (by decide) rfl ?_
  intro p e s m args below meth c s₁ B hml hv
  obtain ⟨rfl, hsz, ⟨hP, hK, hD0⟩, hE⟩ := hv
  have hx := B.exec
  have hb := B.bytes
  have hr := B.returns
  have hts := atoms_spec (ws := wsX3_merged) B.pre
  have hown : s.vm.findClass RX3 = some m.cls := findClass_of_methodNamed B.named
  have hlocks := B.notSynchronized
  subst hsz
  have hD := hD0.self (sz := s.heap.size)
  generalize hAe : va_A (mW hm q0 q1 q2 q3 q4 q5 q6 q7 q8 q9 cI cJ th nd fs ft mi ml fl gS gX gT gC gO fD gE sp fa) s.heap.size = A at hD hE ⊢
  have hA : ∀ q : Nat, s.heap.size ≤ q → A q := fun q h => by rw [← hAe]; exact Or.inr h
  have hS : va_S A s.heap s.heap [] := va_S.rf
  have hP : va_P D vwCl [(hm, .inr (3, [.int th, .int (nI nd), .ref q0, .ref q1, .int (nI mi), .int (nI ml), .ref q2, .ref q3, .ref q4, .ref q5, .ref q6, .ref q7, .ref q8, .ref q9, .int (nI sp), .int fa])), (q0, .inl (cI, 401, .inl fs)), (q1, .inl (cJ, 25664, .inr (.inl ft))), (q2, .inl (cI, 4, .inl fl)), (q3, .inl (cI, 8, .inl (fun j => nI (gS j)))), (q4, .inl (cI, 8, .inl (fun j => nI (gX j)))), (q5, .inl (cI, 8, .inl (fun j => nI (gT j)))), (q6, .inl (cI, 2, .inl (fun j => nI (gC j)))), (q7, .inl (cI, 32, .inl (fun j => nI (gO j)))), (q8, .inl (cI, 32, .inl fD)), (q9, .inl (cI, 2, .inl (fun j => nI (gE j))))] s.heap := hP
  have hD : va_D A [(hm, .inr (3, [.int th, .int (nI nd), .ref q0, .ref q1, .int (nI mi), .int (nI ml), .ref q2, .ref q3, .ref q4, .ref q5, .ref q6, .ref q7, .ref q8, .ref q9, .int (nI sp), .int fa])), (q0, .inl (cI, 401, .inl fs)), (q1, .inl (cJ, 25664, .inr (.inl ft))), (q2, .inl (cI, 4, .inl fl)), (q3, .inl (cI, 8, .inl (fun j => nI (gS j)))), (q4, .inl (cI, 8, .inl (fun j => nI (gX j)))), (q5, .inl (cI, 8, .inl (fun j => nI (gT j)))), (q6, .inl (cI, 2, .inl (fun j => nI (gC j)))), (q7, .inl (cI, 32, .inl (fun j => nI (gO j)))), (q8, .inl (cI, 32, .inl fD)), (q9, .inl (cI, 2, .inl (fun j => nI (gE j))))] := hD
  have hl := lv_entry ([.ref hm, .int sd]) (n := 4) (Nat.le_of_ble_eq_true rfl)
  rw [lg_entry_eq]
  generalize (lg_sl ([.ref hm, .int sd]) ++ List.replicate (4 - (lg_sl ([.ref hm, .int sd])).length) Slot.unset).toArray = ls at hl ⊢
  have hl : lv_has ls 4 [(0, .ref hm), (1, .int sd)] := hl
  have hin3 : ∀ w ∈ wsX30, w ∈ wsX3_merged := by decide +kernel
  have kf44 := hts (.fieldLink RX3 44 "SweepEqualModel" "thrown" "I") (by decide +kernel)
  have kf48 := hts (.fieldLink RX3 48 "SweepEqualModel" "nodes" "I") (by decide +kernel)
  have kf7 := hts (.fieldLink RX3 7 "SweepEqualModel" "sides" "[I") (by decide +kernel)
  refine lv_aload_n hx hb dX3_merged_0 rfl (lv_at hl 0 rfl) ?_
  refine lv_iload_n hx hb dX3_merged_1 rfl (lv_at hl 1 rfl) ?_
  refine rd_S (As := [.int sd]) (rest := [.ref hm]) ⟨hx, hb, hml, hown, hts⟩ (c_X3_isSide l sd) (va_cwS 1 hts gX3_merged_X3_isSide rfl rfl rfl (by decide +kernel) ⟨Nat.le_of_ble_eq_true rfl, Nat.le_of_ble_eq_true rfl⟩) preEq rfl hl.1 rfl (Nat.le_of_ble_eq_true rfl) dX3_merged_2 ⟨by show _ ≤ _; simp only [headSpec]; omega, by show _ ≤ _; simp only [headSpec]; omega⟩ ?_
  refine tp_i (show zI (decide (sd = 0 ∨ sd = 1)) = nI 1 from zd_1 hs) ?_
  refine lv_if_eq (tgt := 12) hx hb dX3_merged_5 (by decide) (fun hc => absurd hc (by decide)) (fun _ => ?_)
  refine lv_iconst (v := nI 0) hx hb dX3_merged_8 (by decide) ?_
  refine lv_goto (tgt := 13) hx hb dX3_merged_9 (by decide) ?_
  refine va_put (D := D) (ci := 3) (v := .int (nI 0)) (ty := .int) (C := RX3) (T := TX3) (N := 16) hx hb hts hin3 tyX3 tyX3_ok nmX3 hown hK hP hD hS 0 rfl rfl 0 (by decide) kf44 (fun _ h9 => h9) rfl (by decide +kernel) rfl rfl (Nat.le_of_ble_eq_true rfl) dX3_merged_13 (fun H locs hP hD hS => ?_)
  have hP : va_P D vwCl [(hm, .inr (3, [.int (nI 0), .int (nI nd), .ref q0, .ref q1, .int (nI mi), .int (nI ml), .ref q2, .ref q3, .ref q4, .ref q5, .ref q6, .ref q7, .ref q8, .ref q9, .int (nI sp), .int fa])), (q0, .inl (cI, 401, .inl fs)), (q1, .inl (cJ, 25664, .inr (.inl ft))), (q2, .inl (cI, 4, .inl fl)), (q3, .inl (cI, 8, .inl (fun j => nI (gS j)))), (q4, .inl (cI, 8, .inl (fun j => nI (gX j)))), (q5, .inl (cI, 8, .inl (fun j => nI (gT j)))), (q6, .inl (cI, 2, .inl (fun j => nI (gC j)))), (q7, .inl (cI, 32, .inl (fun j => nI (gO j)))), (q8, .inl (cI, 32, .inl fD)), (q9, .inl (cI, 2, .inl (fun j => nI (gE j))))] H := hP
  have hD : va_D A [(hm, .inr (3, [.int (nI 0), .int (nI nd), .ref q0, .ref q1, .int (nI mi), .int (nI ml), .ref q2, .ref q3, .ref q4, .ref q5, .ref q6, .ref q7, .ref q8, .ref q9, .int (nI sp), .int fa])), (q0, .inl (cI, 401, .inl fs)), (q1, .inl (cJ, 25664, .inr (.inl ft))), (q2, .inl (cI, 4, .inl fl)), (q3, .inl (cI, 8, .inl (fun j => nI (gS j)))), (q4, .inl (cI, 8, .inl (fun j => nI (gX j)))), (q5, .inl (cI, 8, .inl (fun j => nI (gT j)))), (q6, .inl (cI, 2, .inl (fun j => nI (gC j)))), (q7, .inl (cI, 32, .inl (fun j => nI (gO j)))), (q8, .inl (cI, 32, .inl fD)), (q9, .inl (cI, 2, .inl (fun j => nI (gE j))))] := hD
  refine lv_iconst (v := nI 0) hx hb dX3_merged_16 (by decide) ?_
  refine lv_istore_n (lv' := [(2, .int (nI 0)), (0, .ref hm), (1, .int sd)]) hx hb dX3_merged_17 rfl hl (by decide) rfl (fun ls hl => ?_)
  refine lv_iconst (v := nI 0) hx hb dX3_merged_18 (by decide) ?_
  refine lv_istore_n (lv' := [(3, .int (nI 0)), (2, .int (nI 0)), (0, .ref hm), (1, .int sd)]) hx hb dX3_merged_19 rfl hl (by decide) rfl (fun ls hl => ?_)
  have loop : ∀ (n : Nat) (i : Nat), i ≤ nd → nd - i < n → ∀ (H : Heap) (locs : List Loc) (ls : Array Slot), va_P D vwCl [(hm, .inr (3, [.int (nI 0), .int (nI nd), .ref q0, .ref q1, .int (nI mi), .int (nI ml), .ref q2, .ref q3, .ref q4, .ref q5, .ref q6, .ref q7, .ref q8, .ref q9, .int (nI sp), .int fa])), (q0, .inl (cI, 401, .inl fs)), (q1, .inl (cJ, 25664, .inr (.inl ft))), (q2, .inl (cI, 4, .inl fl)), (q3, .inl (cI, 8, .inl (fun j => nI (gS j)))), (q4, .inl (cI, 8, .inl (fun j => nI (gX j)))), (q5, .inl (cI, 8, .inl (fun j => nI (gT j)))), (q6, .inl (cI, 2, .inl (fun j => nI (gC j)))), (q7, .inl (cI, 32, .inl (fun j => nI (gO j)))), (q8, .inl (cI, 32, .inl fD)), (q9, .inl (cI, 2, .inl (fun j => nI (gE j))))] H → va_D A [(hm, .inr (3, [.int (nI 0), .int (nI nd), .ref q0, .ref q1, .int (nI mi), .int (nI ml), .ref q2, .ref q3, .ref q4, .ref q5, .ref q6, .ref q7, .ref q8, .ref q9, .int (nI sp), .int fa])), (q0, .inl (cI, 401, .inl fs)), (q1, .inl (cJ, 25664, .inr (.inl ft))), (q2, .inl (cI, 4, .inl fl)), (q3, .inl (cI, 8, .inl (fun j => nI (gS j)))), (q4, .inl (cI, 8, .inl (fun j => nI (gX j)))), (q5, .inl (cI, 8, .inl (fun j => nI (gT j)))), (q6, .inl (cI, 2, .inl (fun j => nI (gC j)))), (q7, .inl (cI, 32, .inl (fun j => nI (gO j)))), (q8, .inl (cI, 32, .inl fD)), (q9, .inl (cI, 2, .inl (fun j => nI (gE j))))] → va_S A s.heap H locs → lv_has ls 4 [(3, .int (nI i)), (2, .int (nI (mM fs ft sd i))), (0, .ref hm), (1, .int sd)] → W p l e (headSpec wsX3_merged { frames := 2, cells := 0, slots := 0, locals := 47 }).room s m ([.ref hm, .int sd] : List Value).toArray below meth c H locs 0 0 (MQ below (wx (Su := Unit) D [(cI, .int), (cJ, .long)] A (fun _ => some (.int (nI (mM fs ft sd nd)))) (fun _ => True) (fun _ => mW hm q0 q1 q2 q3 q4 q5 q6 q7 q8 q9 cI cJ (nI 0) nd fs ft mi ml fl gS gX gT gC gO fD gE sp fa)) ([.ref hm, .int sd] : List Value).toArray s 0 0 A) (F0 m 20 ls []) := by
    intro n
    induction n with
    | zero => intro i hi hM; exact absurd hM (Nat.not_lt_zero _)
    | succ n ih =>
      intro i hi hM H locs ls hP hD hS hl
      refine lv_iload_n hx hb dX3_merged_20 rfl (lv_at hl 0 rfl) ?_
      refine lv_aload_n hx hb dX3_merged_21 rfl (lv_at hl 2 rfl) ?_
      refine va_get (D := D) (ci := 3) (v := .int (nI nd)) (C := RX3) (T := TX3) (N := 16) hx hb hts hin3 hown hK hP 0 rfl rfl 1 (by decide) kf48 (fun _ h9 => h9) rfl dX3_merged_22 ?_
      refine lv_icmp_ge (tgt := 67) hx hb dX3_merged_25 (by decide) (fun c1 => ?_) (fun c1 => ?_)
      · have c1 : nd ≤ i := (nI_leI (by omega) (by omega)).mp c1
        have hi2 : i = nd := by omega
        refine lv_iload_n hx hb dX3_merged_67 rfl (lv_at hl 1 rfl) ?_
        exact wr_i (()) hx hb hr hlocks hP hD hS dX3_merged_68 (by rw [hi2]) (trivial)
      · have c1 : ¬ (nd ≤ i) := fun h => c1 ((nI_leI (by omega) (by omega)).mpr h)
        refine lv_aload_n hx hb dX3_merged_28 rfl (lv_at hl 2 rfl) ?_
        refine va_get (D := D) (ci := 3) (v := .int (nI 0)) (C := RX3) (T := TX3) (N := 16) hx hb hts hin3 hown hK hP 0 rfl rfl 0 (by decide) kf44 (fun _ h9 => h9) rfl dX3_merged_29 ?_
        refine lv_if_ne (tgt := 67) hx hb dX3_merged_32 (by decide) (fun hc => absurd hc (by decide)) (fun _ => ?_)
        refine lv_aload_n hx hb dX3_merged_35 rfl (lv_at hl 2 rfl) ?_
        refine va_get (D := D) (ci := 3) (v := .ref q0) (C := RX3) (T := TX3) (N := 16) hx hb hts hin3 hown hK hP 0 rfl rfl 2 (by decide) kf7 (fun _ h9 => h9) rfl dX3_merged_36 ?_
        refine lv_iload_n hx hb dX3_merged_39 rfl (lv_at hl 0 rfl) ?_
        refine va_iald hx hb hK hP 1 0 rfl rfl (vp_in_nI (by omega) (by omega)) dX3_merged_40 ?_
        refine tp_i (show fs (nI i).toNatClampNeg = fs i from congrArg fs (nI_clamp (by omega))) ?_
        refine lv_iload_n hx hb dX3_merged_41 rfl (lv_at hl 3 rfl) ?_
        refine lv_icmp_ne (tgt := 59) hx hb dX3_merged_42 (by decide) (fun c2 => ?_) (fun c2 => ?_)
        · refine lv_iload_n hx hb dX3_merged_59 rfl (lv_at hl 1 rfl) ?_
          refine lv_istore_n (lv' := [(2, .int (nI (mM fs ft sd i))), (3, .int (nI i)), (0, .ref hm), (1, .int sd)]) hx hb dX3_merged_60 rfl hl (by decide) rfl (fun ls hl => ?_)
          refine lv_iinc (v := nI (i + 1)) (lv' := [(3, .int (nI (i + 1))), (2, .int (nI (mM fs ft sd i))), (0, .ref hm), (1, .int sd)]) hx hb dX3_merged_61 hl (k := 1) rfl (nI_add i 1) (by decide) rfl (fun ls hl => ?_)
          refine lv_goto (tgt := 20) hx hb dX3_merged_64 (by decide) ?_
          exact ih (i + 1) (by omega) (by omega) _ _ ls hP hD hS (by rw [show mM fs ft sd (i + 1) = mM fs ft sd i from by simp [mM, c2]]; exact lv_sub hl [0, 1, 2, 3] rfl)
        · refine lv_aload_n hx hb dX3_merged_45 rfl (lv_at hl 2 rfl) ?_
          refine lv_iload_n hx hb dX3_merged_46 rfl (lv_at hl 0 rfl) ?_
          refine rd_V (As := [.int (nI i)]) (rest := []) ⟨hx, hb, hml, hown, hts⟩ (c_X3_isLeast l D cI cJ hm q0 q1 q2 q3 q4 q5 q6 q7 q8 q9 (nI 0) nd fs ft mi ml fl gS gX gT gC gO fD gE sp fa i (by omega)) (cwV 1 hts gX3_merged_X3_isLeast rfl rfl rfl (by decide +kernel) ⟨Nat.le_of_ble_eq_true rfl, Nat.le_of_ble_eq_true rfl⟩) (rd_pv (ci := 3) (q0 := 0) hK hP rfl rfl) rfl hl.1 rfl (Nat.le_of_ble_eq_true rfl) dX3_merged_47 ⟨by show _ ≤ _; simp only [headSpec]; omega, by show _ ≤ _; simp only [headSpec]; omega⟩ ?_
          refine lv_if_ne (tgt := 59) hx hb dX3_merged_50 (by decide) (fun c3 => ?_) (fun c3 => ?_)
          · have c3 : lsF ft i = true := by simpa using fun h => c3 (zI_eq0.mpr h)
            refine lv_iload_n hx hb dX3_merged_59 rfl (lv_at hl 1 rfl) ?_
            refine lv_istore_n (lv' := [(2, .int (nI (mM fs ft sd i))), (3, .int (nI i)), (0, .ref hm), (1, .int sd)]) hx hb dX3_merged_60 rfl hl (by decide) rfl (fun ls hl => ?_)
            refine lv_iinc (v := nI (i + 1)) (lv' := [(3, .int (nI (i + 1))), (2, .int (nI (mM fs ft sd i))), (0, .ref hm), (1, .int sd)]) hx hb dX3_merged_61 hl (k := 1) rfl (nI_add i 1) (by decide) rfl (fun ls hl => ?_)
            refine lv_goto (tgt := 20) hx hb dX3_merged_64 (by decide) ?_
            exact ih (i + 1) (by omega) (by omega) _ _ ls hP hD hS (by rw [show mM fs ft sd (i + 1) = mM fs ft sd i from by simp [mM, c3]]; exact lv_sub hl [0, 1, 2, 3] rfl)
          · have c3 := zI_eq0.mp c3
            refine lv_iload_n hx hb dX3_merged_53 rfl (lv_at hl 1 rfl) ?_
            refine lv_iconst (v := nI 1) hx hb dX3_merged_54 (by decide) ?_
            refine lv_iadd hx hb dX3_merged_55 ?_
            refine tp_i (show (nI (mM fs ft sd i)) + (nI 1) = nI (mM fs ft sd i + 1) from nI_add _ _) ?_
            refine lv_goto (tgt := 60) hx hb dX3_merged_56 (by decide) ?_
            refine lv_istore_n (lv' := [(2, .int (nI (mM fs ft sd i + 1))), (3, .int (nI i)), (0, .ref hm), (1, .int sd)]) hx hb dX3_merged_60 rfl hl (by decide) rfl (fun ls hl => ?_)
            refine lv_iinc (v := nI (i + 1)) (lv' := [(3, .int (nI (i + 1))), (2, .int (nI (mM fs ft sd i + 1))), (0, .ref hm), (1, .int sd)]) hx hb dX3_merged_61 hl (k := 1) rfl (nI_add i 1) (by decide) rfl (fun ls hl => ?_)
            refine lv_goto (tgt := 20) hx hb dX3_merged_64 (by decide) ?_
            exact ih (i + 1) (by omega) (by omega) _ _ ls hP hD hS (by rw [show mM fs ft sd (i + 1) = mM fs ft sd i + 1 from by simp [mM, c2, c3]]; exact lv_sub hl [0, 1, 2, 3] rfl)
  exact loop (nd - 0 + 1) 0 (by omega) (by omega) _ _ ls hP hD hS (lv_sub hl [0, 1, 2, 3] rfl)
set_option maxHeartbeats 4000000 in
set_option maxRecDepth 100000 in
/-- merged: no such side -/
theorem w_X3_mergedB (sd : Int32) (hs : ¬ (sd = 0 ∨ sd = 1)) (hn1 : 1 ≤ nd) (hnd : nd ≤ 400) (sz : Nat) : Met l yX3_merged wsX3_merged { frames := 2, cells := 0, slots := 0, locals := 47 } (wr_P D [(cI, .int), (cJ, .long)] (mW hm q0 q1 q2 q3 q4 q5 q6 q7 q8 q9 cI cJ th nd fs ft mi ml fl gS gX gT gC gO fD gE sp fa) sz tp [.ref hm, .int sd]) (wx (Su := Unit) D [(cI, .int), (cJ, .long)] (va_A (mW hm q0 q1 q2 q3 q4 q5 q6 q7 q8 q9 cI cJ th nd fs ft mi ml fl gS gX gT gC gO fD gE sp fa) sz) (fun _ => some (.int (nI 0))) (fun _ => True) (fun _ => mW hm q0 q1 q2 q3 q4 q5 q6 q7 q8 q9 cI cJ (nI 1) nd fs ft mi ml fl gS gX gT gC gO fD gE sp fa)) 0 0 (va_A (mW hm q0 q1 q2 q3 q4 q5 q6 q7 q8 q9 cI cJ th nd fs ft mi ml fl gS gX gT gC gO fD gE sp fa) sz) := by
  refine Met.ofW (cc := cX3_merged) (maxL := 4) (ret := (some .int)) (by decide) rfl ?_
  intro p e s m args below meth c s₁ B hml hv
  obtain ⟨rfl, hsz, ⟨hP, hK, hD0⟩, hE⟩ := hv
  have hx := B.exec
  have hb := B.bytes
  have hr := B.returns
  have hts := atoms_spec (ws := wsX3_merged) B.pre
  have hown : s.vm.findClass RX3 = some m.cls := findClass_of_methodNamed B.named
  have hlocks := B.notSynchronized
  subst hsz
  have hD := hD0.self (sz := s.heap.size)
  generalize hAe : va_A (mW hm q0 q1 q2 q3 q4 q5 q6 q7 q8 q9 cI cJ th nd fs ft mi ml fl gS gX gT gC gO fD gE sp fa) s.heap.size = A at hD hE ⊢
  have hA : ∀ q : Nat, s.heap.size ≤ q → A q := fun q h => by rw [← hAe]; exact Or.inr h
  have hS : va_S A s.heap s.heap [] := va_S.rf
  have hP : va_P D vwCl [(hm, .inr (3, [.int th, .int (nI nd), .ref q0, .ref q1, .int (nI mi), .int (nI ml), .ref q2, .ref q3, .ref q4, .ref q5, .ref q6, .ref q7, .ref q8, .ref q9, .int (nI sp), .int fa])), (q0, .inl (cI, 401, .inl fs)), (q1, .inl (cJ, 25664, .inr (.inl ft))), (q2, .inl (cI, 4, .inl fl)), (q3, .inl (cI, 8, .inl (fun j => nI (gS j)))), (q4, .inl (cI, 8, .inl (fun j => nI (gX j)))), (q5, .inl (cI, 8, .inl (fun j => nI (gT j)))), (q6, .inl (cI, 2, .inl (fun j => nI (gC j)))), (q7, .inl (cI, 32, .inl (fun j => nI (gO j)))), (q8, .inl (cI, 32, .inl fD)), (q9, .inl (cI, 2, .inl (fun j => nI (gE j))))] s.heap := hP
  have hD : va_D A [(hm, .inr (3, [.int th, .int (nI nd), .ref q0, .ref q1, .int (nI mi), .int (nI ml), .ref q2, .ref q3, .ref q4, .ref q5, .ref q6, .ref q7, .ref q8, .ref q9, .int (nI sp), .int fa])), (q0, .inl (cI, 401, .inl fs)), (q1, .inl (cJ, 25664, .inr (.inl ft))), (q2, .inl (cI, 4, .inl fl)), (q3, .inl (cI, 8, .inl (fun j => nI (gS j)))), (q4, .inl (cI, 8, .inl (fun j => nI (gX j)))), (q5, .inl (cI, 8, .inl (fun j => nI (gT j)))), (q6, .inl (cI, 2, .inl (fun j => nI (gC j)))), (q7, .inl (cI, 32, .inl (fun j => nI (gO j)))), (q8, .inl (cI, 32, .inl fD)), (q9, .inl (cI, 2, .inl (fun j => nI (gE j))))] := hD
  have hl := lv_entry ([.ref hm, .int sd]) (n := 4) (Nat.le_of_ble_eq_true rfl)
  rw [lg_entry_eq]
  generalize (lg_sl ([.ref hm, .int sd]) ++ List.replicate (4 - (lg_sl ([.ref hm, .int sd])).length) Slot.unset).toArray = ls at hl ⊢
  have hl : lv_has ls 4 [(0, .ref hm), (1, .int sd)] := hl
  have hin3 : ∀ w ∈ wsX30, w ∈ wsX3_merged := by decide +kernel
  have kf44 := hts (.fieldLink RX3 44 "SweepEqualModel" "thrown" "I") (by decide +kernel)
  have kf48 := hts (.fieldLink RX3 48 "SweepEqualModel" "nodes" "I") (by decide +kernel)
  have kf7 := hts (.fieldLink RX3 7 "SweepEqualModel" "sides" "[I") (by decide +kernel)
  refine lv_aload_n hx hb dX3_merged_0 rfl (lv_at hl 0 rfl) ?_
  refine lv_iload_n hx hb dX3_merged_1 rfl (lv_at hl 1 rfl) ?_
  refine rd_S (As := [.int sd]) (rest := [.ref hm]) ⟨hx, hb, hml, hown, hts⟩ (c_X3_isSide l sd) (va_cwS 1 hts gX3_merged_X3_isSide rfl rfl rfl (by decide +kernel) ⟨Nat.le_of_ble_eq_true rfl, Nat.le_of_ble_eq_true rfl⟩) preEq rfl hl.1 rfl (Nat.le_of_ble_eq_true rfl) dX3_merged_2 ⟨by show _ ≤ _; simp only [headSpec]; omega, by show _ ≤ _; simp only [headSpec]; omega⟩ ?_
  refine tp_i (show zI (decide (sd = 0 ∨ sd = 1)) = nI 0 from zd_0 hs) ?_
  refine lv_if_eq (tgt := 12) hx hb dX3_merged_5 (by decide) (fun _ => ?_) (fun hc => absurd hc (by decide))
  refine lv_iconst (v := nI 1) hx hb dX3_merged_12 (by decide) ?_
  refine va_put (D := D) (ci := 3) (v := .int (nI 1)) (ty := .int) (C := RX3) (T := TX3) (N := 16) hx hb hts hin3 tyX3 tyX3_ok nmX3 hown hK hP hD hS 0 rfl rfl 0 (by decide) kf44 (fun _ h9 => h9) rfl (by decide +kernel) rfl rfl (Nat.le_of_ble_eq_true rfl) dX3_merged_13 (fun H locs hP hD hS => ?_)
  have hP : va_P D vwCl [(hm, .inr (3, [.int (nI 1), .int (nI nd), .ref q0, .ref q1, .int (nI mi), .int (nI ml), .ref q2, .ref q3, .ref q4, .ref q5, .ref q6, .ref q7, .ref q8, .ref q9, .int (nI sp), .int fa])), (q0, .inl (cI, 401, .inl fs)), (q1, .inl (cJ, 25664, .inr (.inl ft))), (q2, .inl (cI, 4, .inl fl)), (q3, .inl (cI, 8, .inl (fun j => nI (gS j)))), (q4, .inl (cI, 8, .inl (fun j => nI (gX j)))), (q5, .inl (cI, 8, .inl (fun j => nI (gT j)))), (q6, .inl (cI, 2, .inl (fun j => nI (gC j)))), (q7, .inl (cI, 32, .inl (fun j => nI (gO j)))), (q8, .inl (cI, 32, .inl fD)), (q9, .inl (cI, 2, .inl (fun j => nI (gE j))))] H := hP
  have hD : va_D A [(hm, .inr (3, [.int (nI 1), .int (nI nd), .ref q0, .ref q1, .int (nI mi), .int (nI ml), .ref q2, .ref q3, .ref q4, .ref q5, .ref q6, .ref q7, .ref q8, .ref q9, .int (nI sp), .int fa])), (q0, .inl (cI, 401, .inl fs)), (q1, .inl (cJ, 25664, .inr (.inl ft))), (q2, .inl (cI, 4, .inl fl)), (q3, .inl (cI, 8, .inl (fun j => nI (gS j)))), (q4, .inl (cI, 8, .inl (fun j => nI (gX j)))), (q5, .inl (cI, 8, .inl (fun j => nI (gT j)))), (q6, .inl (cI, 2, .inl (fun j => nI (gC j)))), (q7, .inl (cI, 32, .inl (fun j => nI (gO j)))), (q8, .inl (cI, 32, .inl fD)), (q9, .inl (cI, 2, .inl (fun j => nI (gE j))))] := hD
  refine lv_iconst (v := nI 0) hx hb dX3_merged_16 (by decide) ?_
  refine lv_istore_n (lv' := [(2, .int (nI 0)), (0, .ref hm), (1, .int sd)]) hx hb dX3_merged_17 rfl hl (by decide) rfl (fun ls hl => ?_)
  refine lv_iconst (v := nI 0) hx hb dX3_merged_18 (by decide) ?_
  refine lv_istore_n (lv' := [(3, .int (nI 0)), (2, .int (nI 0)), (0, .ref hm), (1, .int sd)]) hx hb dX3_merged_19 rfl hl (by decide) rfl (fun ls hl => ?_)
  refine lv_iload_n hx hb dX3_merged_20 rfl (lv_at hl 0 rfl) ?_
  refine lv_aload_n hx hb dX3_merged_21 rfl (lv_at hl 2 rfl) ?_
  refine va_get (D := D) (ci := 3) (v := .int (nI nd)) (C := RX3) (T := TX3) (N := 16) hx hb hts hin3 hown hK hP 0 rfl rfl 1 (by decide) kf48 (fun _ h9 => h9) rfl dX3_merged_22 ?_
  refine lv_icmp_ge (tgt := 67) hx hb dX3_merged_25 (by decide) (fun hc => absurd ((nI_leI (by omega) (by omega)).mp hc) (by omega)) (fun _ => ?_)
  refine lv_aload_n hx hb dX3_merged_28 rfl (lv_at hl 2 rfl) ?_
  refine va_get (D := D) (ci := 3) (v := .int (nI 1)) (C := RX3) (T := TX3) (N := 16) hx hb hts hin3 hown hK hP 0 rfl rfl 0 (by decide) kf44 (fun _ h9 => h9) rfl dX3_merged_29 ?_
  refine lv_if_ne (tgt := 67) hx hb dX3_merged_32 (by decide) (fun _ => ?_) (fun hc => absurd hc (by decide))
  refine lv_iload_n hx hb dX3_merged_67 rfl (lv_at hl 1 rfl) ?_
  exact wr_i (()) hx hb hr hlocks hP hD hS dX3_merged_68 (rfl) (trivial)
set_option maxHeartbeats 4000000 in
set_option maxRecDepth 100000 in
/-- hangs -/
theorem w_X3_hangs (lit : Nat) (h1 : lit < 2 * nd) (hnd : nd ≤ 400) (sz : Nat) : Met l yX3_hangs wsX3_hangs { frames := 1, cells := 0, slots := 0, locals := 24 } (wr_P D [(cI, .int), (cJ, .long)] (mW hm q0 q1 q2 q3 q4 q5 q6 q7 q8 q9 cI cJ th nd fs ft mi ml fl gS gX gT gC gO fD gE sp fa) sz tp [.ref hm, .int (nI lit)]) (wx (Su := Unit) D [(cI, .int), (cJ, .long)] (va_A (mW hm q0 q1 q2 q3 q4 q5 q6 q7 q8 q9 cI cJ th nd fs ft mi ml fl gS gX gT gC gO fD gE sp fa) sz) (fun _ => some (.int (nI (hmF ft lit 12)))) (fun _ => True) (fun _ => mW hm q0 q1 q2 q3 q4 q5 q6 q7 q8 q9 cI cJ (nI 0) nd fs ft mi ml fl gS gX gT gC gO fD gE sp fa)) 0 0 (va_A (mW hm q0 q1 q2 q3 q4 q5 q6 q7 q8 q9 cI cJ th nd fs ft mi ml fl gS gX gT gC gO fD gE sp fa) sz) := by
  refine Met.ofW (cc := cX3_hangs) (maxL := 5) (ret := (some .int)) (by decide) rfl ?_
  intro p e s m args below meth c s₁ B hml hv
  obtain ⟨rfl, hsz, ⟨hP, hK, hD0⟩, hE⟩ := hv
  have hx := B.exec
  have hb := B.bytes
  have hr := B.returns
  have hts := atoms_spec (ws := wsX3_hangs) B.pre
  have hown : s.vm.findClass RX3 = some m.cls := findClass_of_methodNamed B.named
  have hlocks := B.notSynchronized
  subst hsz
  have hD := hD0.self (sz := s.heap.size)
  generalize hAe : va_A (mW hm q0 q1 q2 q3 q4 q5 q6 q7 q8 q9 cI cJ th nd fs ft mi ml fl gS gX gT gC gO fD gE sp fa) s.heap.size = A at hD hE ⊢
  have hA : ∀ q : Nat, s.heap.size ≤ q → A q := fun q h => by rw [← hAe]; exact Or.inr h
  have hS : va_S A s.heap s.heap [] := va_S.rf
  have hP : va_P D vwCl [(hm, .inr (3, [.int th, .int (nI nd), .ref q0, .ref q1, .int (nI mi), .int (nI ml), .ref q2, .ref q3, .ref q4, .ref q5, .ref q6, .ref q7, .ref q8, .ref q9, .int (nI sp), .int fa])), (q0, .inl (cI, 401, .inl fs)), (q1, .inl (cJ, 25664, .inr (.inl ft))), (q2, .inl (cI, 4, .inl fl)), (q3, .inl (cI, 8, .inl (fun j => nI (gS j)))), (q4, .inl (cI, 8, .inl (fun j => nI (gX j)))), (q5, .inl (cI, 8, .inl (fun j => nI (gT j)))), (q6, .inl (cI, 2, .inl (fun j => nI (gC j)))), (q7, .inl (cI, 32, .inl (fun j => nI (gO j)))), (q8, .inl (cI, 32, .inl fD)), (q9, .inl (cI, 2, .inl (fun j => nI (gE j))))] s.heap := hP
  have hD : va_D A [(hm, .inr (3, [.int th, .int (nI nd), .ref q0, .ref q1, .int (nI mi), .int (nI ml), .ref q2, .ref q3, .ref q4, .ref q5, .ref q6, .ref q7, .ref q8, .ref q9, .int (nI sp), .int fa])), (q0, .inl (cI, 401, .inl fs)), (q1, .inl (cJ, 25664, .inr (.inl ft))), (q2, .inl (cI, 4, .inl fl)), (q3, .inl (cI, 8, .inl (fun j => nI (gS j)))), (q4, .inl (cI, 8, .inl (fun j => nI (gX j)))), (q5, .inl (cI, 8, .inl (fun j => nI (gT j)))), (q6, .inl (cI, 2, .inl (fun j => nI (gC j)))), (q7, .inl (cI, 32, .inl (fun j => nI (gO j)))), (q8, .inl (cI, 32, .inl fD)), (q9, .inl (cI, 2, .inl (fun j => nI (gE j))))] := hD
  have hl := lv_entry ([.ref hm, .int (nI lit)]) (n := 5) (Nat.le_of_ble_eq_true rfl)
  rw [lg_entry_eq]
  generalize (lg_sl ([.ref hm, .int (nI lit)]) ++ List.replicate (5 - (lg_sl ([.ref hm, .int (nI lit)])).length) Slot.unset).toArray = ls at hl ⊢
  have hl : lv_has ls 5 [(0, .ref hm), (1, .int (nI lit))] := hl
  have hin3 : ∀ w ∈ wsX30, w ∈ wsX3_hangs := by decide +kernel
  have kf44 := hts (.fieldLink RX3 44 "SweepEqualModel" "thrown" "I") (by decide +kernel)
  refine lv_aload_n hx hb dX3_hangs_0 rfl (lv_at hl 0 rfl) ?_
  refine lv_aload_n hx hb dX3_hangs_1 rfl (lv_at hl 0 rfl) ?_
  refine lv_iload_n hx hb dX3_hangs_2 rfl (lv_at hl 1 rfl) ?_
  refine rd_V (As := [.int (nI lit)]) (rest := [.ref hm]) ⟨hx, hb, hml, hown, hts⟩ (c_X3_isLiteral l D cI cJ hm q0 q1 q2 q3 q4 q5 q6 q7 q8 q9 th nd fs ft mi ml fl gS gX gT gC gO fD gE sp fa (nI lit)) (cwV 1 hts gX3_hangs_X3_isLiteral rfl rfl rfl (by decide +kernel) ⟨Nat.le_of_ble_eq_true rfl, Nat.le_of_ble_eq_true rfl⟩) (rd_pv (ci := 3) (q0 := 0) hK hP rfl rfl) rfl hl.1 rfl (Nat.le_of_ble_eq_true rfl) dX3_hangs_3 ⟨by show _ ≤ _; simp only [headSpec]; omega, by show _ ≤ _; simp only [headSpec]; omega⟩ ?_
  refine tp_i (show zI (decide (¬ nI lit < 0 ∧ ¬ nI (2 * nd) ≤ nI lit)) = nI 1 from lit_t h1 (by omega)) ?_
  refine lv_if_eq (tgt := 13) hx hb dX3_hangs_6 (by decide) (fun hc => absurd hc (by decide)) (fun _ => ?_)
  refine lv_iconst (v := nI 0) hx hb dX3_hangs_9 (by decide) ?_
  refine lv_goto (tgt := 14) hx hb dX3_hangs_10 (by decide) ?_
  refine va_put (D := D) (ci := 3) (v := .int (nI 0)) (ty := .int) (C := RX3) (T := TX3) (N := 16) hx hb hts hin3 tyX3 tyX3_ok nmX3 hown hK hP hD hS 0 rfl rfl 0 (by decide) kf44 (fun _ h9 => h9) rfl (by decide +kernel) rfl rfl (Nat.le_of_ble_eq_true rfl) dX3_hangs_14 (fun H locs hP hD hS => ?_)
  have hP : va_P D vwCl [(hm, .inr (3, [.int (nI 0), .int (nI nd), .ref q0, .ref q1, .int (nI mi), .int (nI ml), .ref q2, .ref q3, .ref q4, .ref q5, .ref q6, .ref q7, .ref q8, .ref q9, .int (nI sp), .int fa])), (q0, .inl (cI, 401, .inl fs)), (q1, .inl (cJ, 25664, .inr (.inl ft))), (q2, .inl (cI, 4, .inl fl)), (q3, .inl (cI, 8, .inl (fun j => nI (gS j)))), (q4, .inl (cI, 8, .inl (fun j => nI (gX j)))), (q5, .inl (cI, 8, .inl (fun j => nI (gT j)))), (q6, .inl (cI, 2, .inl (fun j => nI (gC j)))), (q7, .inl (cI, 32, .inl (fun j => nI (gO j)))), (q8, .inl (cI, 32, .inl fD)), (q9, .inl (cI, 2, .inl (fun j => nI (gE j))))] H := hP
  have hD : va_D A [(hm, .inr (3, [.int (nI 0), .int (nI nd), .ref q0, .ref q1, .int (nI mi), .int (nI ml), .ref q2, .ref q3, .ref q4, .ref q5, .ref q6, .ref q7, .ref q8, .ref q9, .int (nI sp), .int fa])), (q0, .inl (cI, 401, .inl fs)), (q1, .inl (cJ, 25664, .inr (.inl ft))), (q2, .inl (cI, 4, .inl fl)), (q3, .inl (cI, 8, .inl (fun j => nI (gS j)))), (q4, .inl (cI, 8, .inl (fun j => nI (gX j)))), (q5, .inl (cI, 8, .inl (fun j => nI (gT j)))), (q6, .inl (cI, 2, .inl (fun j => nI (gC j)))), (q7, .inl (cI, 32, .inl (fun j => nI (gO j)))), (q8, .inl (cI, 32, .inl fD)), (q9, .inl (cI, 2, .inl (fun j => nI (gE j))))] := hD
  refine lv_iconst (v := nI 0) hx hb dX3_hangs_17 (by decide) ?_
  refine lv_istore_n (lv' := [(2, .int (nI 0)), (0, .ref hm), (1, .int (nI lit))]) hx hb dX3_hangs_18 rfl hl (by decide) rfl (fun ls hl => ?_)
  refine lv_iconst (v := nI 0) hx hb dX3_hangs_19 (by decide) ?_
  refine lv_istore_n (lv' := [(3, .int (nI 0)), (2, .int (nI 0)), (0, .ref hm), (1, .int (nI lit))]) hx hb dX3_hangs_20 rfl hl (by decide) rfl (fun ls hl => ?_)
  have loop : ∀ (n : Nat) (i : Nat), i ≤ 12 → 12 - i < n → ∀ (H : Heap) (locs : List Loc) (ls : Array Slot), va_P D vwCl [(hm, .inr (3, [.int (nI 0), .int (nI nd), .ref q0, .ref q1, .int (nI mi), .int (nI ml), .ref q2, .ref q3, .ref q4, .ref q5, .ref q6, .ref q7, .ref q8, .ref q9, .int (nI sp), .int fa])), (q0, .inl (cI, 401, .inl fs)), (q1, .inl (cJ, 25664, .inr (.inl ft))), (q2, .inl (cI, 4, .inl fl)), (q3, .inl (cI, 8, .inl (fun j => nI (gS j)))), (q4, .inl (cI, 8, .inl (fun j => nI (gX j)))), (q5, .inl (cI, 8, .inl (fun j => nI (gT j)))), (q6, .inl (cI, 2, .inl (fun j => nI (gC j)))), (q7, .inl (cI, 32, .inl (fun j => nI (gO j)))), (q8, .inl (cI, 32, .inl fD)), (q9, .inl (cI, 2, .inl (fun j => nI (gE j))))] H → va_D A [(hm, .inr (3, [.int (nI 0), .int (nI nd), .ref q0, .ref q1, .int (nI mi), .int (nI ml), .ref q2, .ref q3, .ref q4, .ref q5, .ref q6, .ref q7, .ref q8, .ref q9, .int (nI sp), .int fa])), (q0, .inl (cI, 401, .inl fs)), (q1, .inl (cJ, 25664, .inr (.inl ft))), (q2, .inl (cI, 4, .inl fl)), (q3, .inl (cI, 8, .inl (fun j => nI (gS j)))), (q4, .inl (cI, 8, .inl (fun j => nI (gX j)))), (q5, .inl (cI, 8, .inl (fun j => nI (gT j)))), (q6, .inl (cI, 2, .inl (fun j => nI (gC j)))), (q7, .inl (cI, 32, .inl (fun j => nI (gO j)))), (q8, .inl (cI, 32, .inl fD)), (q9, .inl (cI, 2, .inl (fun j => nI (gE j))))] → va_S A s.heap H locs → lv_has ls 5 [(3, .int (nI i)), (2, .int (nI (hmF ft lit i))), (0, .ref hm), (1, .int (nI lit))] → W p l e (headSpec wsX3_hangs { frames := 1, cells := 0, slots := 0, locals := 24 }).room s m ([.ref hm, .int (nI lit)] : List Value).toArray below meth c H locs 0 0 (MQ below (wx (Su := Unit) D [(cI, .int), (cJ, .long)] A (fun _ => some (.int (nI (hmF ft lit 12)))) (fun _ => True) (fun _ => mW hm q0 q1 q2 q3 q4 q5 q6 q7 q8 q9 cI cJ (nI 0) nd fs ft mi ml fl gS gX gT gC gO fD gE sp fa)) ([.ref hm, .int (nI lit)] : List Value).toArray s 0 0 A) (F0 m 21 ls []) := by
    intro n
    induction n with
    | zero => intro i hi hM; exact absurd hM (Nat.not_lt_zero _)
    | succ n ih =>
      intro i hi hM H locs ls hP hD hS hl
      have ihO := ih
      refine lv_iload_n hx hb dX3_hangs_21 rfl (lv_at hl 0 rfl) ?_
      refine lv_bipush (v := nI 12) hx hb dX3_hangs_22 (by decide) ?_
      refine lv_icmp_ge (tgt := 84) hx hb dX3_hangs_24 (by decide) (fun c1 => ?_) (fun c1 => ?_)
      · have c1 : 12 ≤ i := (nI_leI (by omega) (by omega)).mp c1
        have hi2 : i = 12 := by omega
        refine lv_iload_n hx hb dX3_hangs_84 rfl (lv_at hl 1 rfl) ?_
        exact wr_i (()) hx hb hr hlocks hP hD hS dX3_hangs_85 (by rw [hi2]) (trivial)
      · have c1 : ¬ (12 ≤ i) := fun h => c1 ((nI_leI (by omega) (by omega)).mpr h)
        have hp : 2 ^ i < 2 ^ 12 := Nat.pow_lt_pow_right (by omega) (by omega)
        refine lv_aload_n hx hb dX3_hangs_27 rfl (lv_at hl 2 rfl) ?_
        refine va_get (D := D) (ci := 3) (v := .int (nI 0)) (C := RX3) (T := TX3) (N := 16) hx hb hts hin3 hown hK hP 0 rfl rfl 0 (by decide) kf44 (fun _ h9 => h9) rfl dX3_hangs_28 ?_
        refine lv_if_ne (tgt := 84) hx hb dX3_hangs_31 (by decide) (fun hc => absurd hc (by decide)) (fun _ => ?_)
        refine lv_iconst (v := nI 0) hx hb dX3_hangs_34 (by decide) ?_
        refine lv_istore (lv' := [(4, .int (nI 0)), (3, .int (nI i)), (2, .int (nI (hmF ft lit i))), (0, .ref hm), (1, .int (nI lit))]) hx hb dX3_hangs_35 hl (by decide) rfl (fun ls hl => ?_)
        have loop2 : ∀ (n : Nat) (a : Nat), a ≤ 4096 → 4096 - a < n → ∀ (H : Heap) (locs : List Loc) (ls : Array Slot), va_P D vwCl [(hm, .inr (3, [.int (nI 0), .int (nI nd), .ref q0, .ref q1, .int (nI mi), .int (nI ml), .ref q2, .ref q3, .ref q4, .ref q5, .ref q6, .ref q7, .ref q8, .ref q9, .int (nI sp), .int fa])), (q0, .inl (cI, 401, .inl fs)), (q1, .inl (cJ, 25664, .inr (.inl ft))), (q2, .inl (cI, 4, .inl fl)), (q3, .inl (cI, 8, .inl (fun j => nI (gS j)))), (q4, .inl (cI, 8, .inl (fun j => nI (gX j)))), (q5, .inl (cI, 8, .inl (fun j => nI (gT j)))), (q6, .inl (cI, 2, .inl (fun j => nI (gC j)))), (q7, .inl (cI, 32, .inl (fun j => nI (gO j)))), (q8, .inl (cI, 32, .inl fD)), (q9, .inl (cI, 2, .inl (fun j => nI (gE j))))] H → va_D A [(hm, .inr (3, [.int (nI 0), .int (nI nd), .ref q0, .ref q1, .int (nI mi), .int (nI ml), .ref q2, .ref q3, .ref q4, .ref q5, .ref q6, .ref q7, .ref q8, .ref q9, .int (nI sp), .int fa])), (q0, .inl (cI, 401, .inl fs)), (q1, .inl (cJ, 25664, .inr (.inl ft))), (q2, .inl (cI, 4, .inl fl)), (q3, .inl (cI, 8, .inl (fun j => nI (gS j)))), (q4, .inl (cI, 8, .inl (fun j => nI (gX j)))), (q5, .inl (cI, 8, .inl (fun j => nI (gT j)))), (q6, .inl (cI, 2, .inl (fun j => nI (gC j)))), (q7, .inl (cI, 32, .inl (fun j => nI (gO j)))), (q8, .inl (cI, 32, .inl fD)), (q9, .inl (cI, 2, .inl (fun j => nI (gE j))))] → va_S A s.heap H locs → lv_has ls 5 [(4, .int (nI a)), (3, .int (nI i)), (2, .int (nI (hmF ft lit i ||| (if hpF ft lit i a = true then 2 ^ i else 0)))), (0, .ref hm), (1, .int (nI lit))] → W p l e (headSpec wsX3_hangs { frames := 1, cells := 0, slots := 0, locals := 24 }).room s m ([.ref hm, .int (nI lit)] : List Value).toArray below meth c H locs 0 0 (MQ below (wx (Su := Unit) D [(cI, .int), (cJ, .long)] A (fun _ => some (.int (nI (hmF ft lit 12)))) (fun _ => True) (fun _ => mW hm q0 q1 q2 q3 q4 q5 q6 q7 q8 q9 cI cJ (nI 0) nd fs ft mi ml fl gS gX gT gC gO fD gE sp fa)) ([.ref hm, .int (nI lit)] : List Value).toArray s 0 0 A) (F0 m 37 ls []) := by
          intro n
          induction n with
          | zero => intro a ha hM; exact absurd hM (Nat.not_lt_zero _)
          | succ n ih =>
            intro a ha hM H locs ls hP hD hS hl
            have ih2 := ih
            clear ih
            have ih := ihO
            refine lv_iload hx hb dX3_hangs_37 (lv_at hl 0 rfl) ?_
            refine lv_sipush (v := nI 4096) hx hb dX3_hangs_39 (by decide) ?_
            refine lv_icmp_ge (tgt := 78) hx hb dX3_hangs_42 (by decide) (fun c2 => ?_) (fun c2 => ?_)
            · have c2 : 4096 ≤ a := (nI_leI (by omega) (by omega)).mp c2
              have ha2 : a = 4096 := by omega
              refine lv_iinc (v := nI (i + 1)) (lv' := [(3, .int (nI (i + 1))), (4, .int (nI a)), (2, .int (nI (hmF ft lit i ||| (if hpF ft lit i a = true then 2 ^ i else 0)))), (0, .ref hm), (1, .int (nI lit))]) hx hb dX3_hangs_78 hl (k := 1) rfl (nI_add i 1) (by decide) rfl (fun ls hl => ?_)
              refine lv_goto (tgt := 21) hx hb dX3_hangs_81 (by decide) ?_
              rw [ha2] at hl
              exact ih (i + 1) (by omega) (by omega) _ _ ls hP hD hS (lv_sub hl [0, 2, 3, 4] rfl)
            · have c2 : ¬ (4096 ≤ a) := fun h => c2 ((nI_leI (by omega) (by omega)).mpr h)
              have hax : a ^^^ 2 ^ i < 2 ^ 12 := Nat.xor_lt_two_pow (by omega) hp
              refine lv_aload_n hx hb dX3_hangs_45 rfl (lv_at hl 3 rfl) ?_
              refine lv_iload_n hx hb dX3_hangs_46 rfl (lv_at hl 4 rfl) ?_
              refine lv_iload hx hb dX3_hangs_47 (lv_at hl 0 rfl) ?_
              refine rd_V (As := [.int (nI lit), .int (nI a)]) (rest := []) ⟨hx, hb, hml, hown, hts⟩ (c_X3_bit l D cI cJ hm q0 q1 q2 q3 q4 q5 q6 q7 q8 q9 (nI 0) nd fs ft mi ml fl gS gX gT gC gO fD gE sp fa lit a (by omega) (by omega)) (cwV 2 hts gX3_hangs_X3_bit rfl rfl rfl (by decide +kernel) ⟨Nat.le_of_ble_eq_true rfl, Nat.le_of_ble_eq_true rfl⟩) (rd_pv (ci := 3) (q0 := 0) hK hP rfl rfl) rfl hl.1 rfl (Nat.le_of_ble_eq_true rfl) dX3_hangs_49 ⟨by show _ ≤ _; simp only [headSpec]; omega, by show _ ≤ _; simp only [headSpec]; omega⟩ ?_
              refine lv_aload_n hx hb dX3_hangs_52 rfl (lv_at hl 3 rfl) ?_
              refine lv_iload_n hx hb dX3_hangs_53 rfl (lv_at hl 4 rfl) ?_
              refine lv_iload hx hb dX3_hangs_54 (lv_at hl 0 rfl) ?_
              refine lv_iconst (v := nI 1) hx hb dX3_hangs_56 (by decide) ?_
              refine lv_iload_n hx hb dX3_hangs_57 rfl (lv_at hl 1 rfl) ?_
              refine lv_ishl hx hb dX3_hangs_58 ?_
              refine tp_i (show (nI 1) <<< ((nI i) &&& 31) = nI (2 ^ i) from n_shl1 (by omega)) ?_
              refine lv_ixor hx hb dX3_hangs_59 ?_
              refine tp_i (show (nI a) ^^^ (nI (2 ^ i)) = nI (a ^^^ 2 ^ i) from n_xor _ _) ?_
              refine rd_V (As := [.int (nI lit), .int (nI (a ^^^ 2 ^ i))]) (rest := [.int (zI (bt ft lit a))]) ⟨hx, hb, hml, hown, hts⟩ (c_X3_bit l D cI cJ hm q0 q1 q2 q3 q4 q5 q6 q7 q8 q9 (nI 0) nd fs ft mi ml fl gS gX gT gC gO fD gE sp fa lit (a ^^^ 2 ^ i) (by omega) (by omega)) (cwV 2 hts gX3_hangs_X3_bit rfl rfl rfl (by decide +kernel) ⟨Nat.le_of_ble_eq_true rfl, Nat.le_of_ble_eq_true rfl⟩) (rd_pv (ci := 3) (q0 := 0) hK hP rfl rfl) rfl hl.1 rfl (Nat.le_of_ble_eq_true rfl) dX3_hangs_60 ⟨by show _ ≤ _; simp only [headSpec]; omega, by show _ ≤ _; simp only [headSpec]; omega⟩ ?_
              refine lv_icmp_eq (tgt := 72) hx hb dX3_hangs_63 (by decide) (fun c3 => ?_) (fun c3 => ?_)
              · have c3 := zI_inj.mp c3
                refine lv_iinc (v := nI (a + 1)) (lv' := [(4, .int (nI (a + 1))), (3, .int (nI i)), (2, .int (nI (hmF ft lit i ||| (if hpF ft lit i a = true then 2 ^ i else 0)))), (0, .ref hm), (1, .int (nI lit))]) hx hb dX3_hangs_72 hl (k := 0) rfl (nI_add a 1) (by decide) rfl (fun ls hl => ?_)
                refine lv_goto (tgt := 37) hx hb dX3_hangs_75 (by decide) ?_
                exact ih2 (a + 1) (by omega) (by omega) _ _ ls hP hD hS (by rw [show (hmF ft lit i ||| (if hpF ft lit i (a + 1) = true then 2 ^ i else 0)) = (hmF ft lit i ||| (if hpF ft lit i a = true then 2 ^ i else 0)) from by simp [hpF, c3]]; exact lv_sub hl [0, 1, 2, 3, 4] rfl)
              · have c3 : ¬ bt ft lit a = bt ft lit (a ^^^ 2 ^ i) := fun h => c3 (zI_inj.mpr h)
                refine lv_iload_n hx hb dX3_hangs_66 rfl (lv_at hl 2 rfl) ?_
                refine lv_iconst (v := nI 1) hx hb dX3_hangs_67 (by decide) ?_
                refine lv_iload_n hx hb dX3_hangs_68 rfl (lv_at hl 1 rfl) ?_
                refine lv_ishl hx hb dX3_hangs_69 ?_
                refine tp_i (show (nI 1) <<< ((nI i) &&& 31) = nI (2 ^ i) from n_shl1 (by omega)) ?_
                refine lv_ior hx hb dX3_hangs_70 ?_
                refine tp_i (show (nI (hmF ft lit i ||| (if hpF ft lit i a = true then 2 ^ i else 0))) ||| (nI (2 ^ i)) = nI (hmF ft lit i ||| 2 ^ i) from by rw [n_or]; exact congrArg nI (or_ab _ _ _)) ?_
                refine lv_istore_n (lv' := [(2, .int (nI (hmF ft lit i ||| 2 ^ i))), (4, .int (nI a)), (3, .int (nI i)), (0, .ref hm), (1, .int (nI lit))]) hx hb dX3_hangs_71 rfl hl (by decide) rfl (fun ls hl => ?_)
                refine lv_iinc (v := nI (a + 1)) (lv' := [(4, .int (nI (a + 1))), (2, .int (nI (hmF ft lit i ||| 2 ^ i))), (3, .int (nI i)), (0, .ref hm), (1, .int (nI lit))]) hx hb dX3_hangs_72 hl (k := 1) rfl (nI_add a 1) (by decide) rfl (fun ls hl => ?_)
                refine lv_goto (tgt := 37) hx hb dX3_hangs_75 (by decide) ?_
                exact ih2 (a + 1) (by omega) (by omega) _ _ ls hP hD hS (by rw [show (hmF ft lit i ||| (if hpF ft lit i (a + 1) = true then 2 ^ i else 0)) = (hmF ft lit i ||| 2 ^ i) from by simp [hpF, c3]]; exact lv_sub hl [0, 2, 1, 3, 4] rfl)
        exact loop2 (4096 - 0 + 1) 0 (by omega) (by omega) _ _ ls hP hD hS (by rw [show (hmF ft lit i ||| (if hpF ft lit i 0 = true then 2 ^ i else 0)) = hmF ft lit i from by simp [hpF]]; exact lv_sub hl [0, 1, 2, 3, 4] rfl)
  exact loop (12 - 0 + 1) 0 (by omega) (by omega) _ _ ls hP hD hS (lv_sub hl [0, 1, 2, 3] rfl)
set_option maxHeartbeats 4000000 in
set_option maxRecDepth 100000 in
/-- hangs: no such literal -/
theorem w_X3_hangsB (x : Int32) (hb0 : (x < 0 ∨ nI (2 * nd) ≤ x)) (sz : Nat) : Met l yX3_hangs wsX3_hangs { frames := 1, cells := 0, slots := 0, locals := 24 } (wr_P D [(cI, .int), (cJ, .long)] (mW hm q0 q1 q2 q3 q4 q5 q6 q7 q8 q9 cI cJ th nd fs ft mi ml fl gS gX gT gC gO fD gE sp fa) sz tp [.ref hm, .int x]) (wx (Su := Unit) D [(cI, .int), (cJ, .long)] (va_A (mW hm q0 q1 q2 q3 q4 q5 q6 q7 q8 q9 cI cJ th nd fs ft mi ml fl gS gX gT gC gO fD gE sp fa) sz) (fun _ => some (.int (nI 0))) (fun _ => True) (fun _ => mW hm q0 q1 q2 q3 q4 q5 q6 q7 q8 q9 cI cJ (nI 1) nd fs ft mi ml fl gS gX gT gC gO fD gE sp fa)) 0 0 (va_A (mW hm q0 q1 q2 q3 q4 q5 q6 q7 q8 q9 cI cJ th nd fs ft mi ml fl gS gX gT gC gO fD gE sp fa) sz) := by
  refine Met.ofW (cc := cX3_hangs) (maxL := 5) (ret := (some .int)) (by decide) rfl ?_
  intro p e s m args below meth c s₁ B hml hv
  obtain ⟨rfl, hsz, ⟨hP, hK, hD0⟩, hE⟩ := hv
  have hx := B.exec
  have hb := B.bytes
  have hr := B.returns
  have hts := atoms_spec (ws := wsX3_hangs) B.pre
  have hown : s.vm.findClass RX3 = some m.cls := findClass_of_methodNamed B.named
  have hlocks := B.notSynchronized
  subst hsz
  have hD := hD0.self (sz := s.heap.size)
  generalize hAe : va_A (mW hm q0 q1 q2 q3 q4 q5 q6 q7 q8 q9 cI cJ th nd fs ft mi ml fl gS gX gT gC gO fD gE sp fa) s.heap.size = A at hD hE ⊢
  have hA : ∀ q : Nat, s.heap.size ≤ q → A q := fun q h => by rw [← hAe]; exact Or.inr h
  have hS : va_S A s.heap s.heap [] := va_S.rf
  have hP : va_P D vwCl [(hm, .inr (3, [.int th, .int (nI nd), .ref q0, .ref q1, .int (nI mi), .int (nI ml), .ref q2, .ref q3, .ref q4, .ref q5, .ref q6, .ref q7, .ref q8, .ref q9, .int (nI sp), .int fa])), (q0, .inl (cI, 401, .inl fs)), (q1, .inl (cJ, 25664, .inr (.inl ft))), (q2, .inl (cI, 4, .inl fl)), (q3, .inl (cI, 8, .inl (fun j => nI (gS j)))), (q4, .inl (cI, 8, .inl (fun j => nI (gX j)))), (q5, .inl (cI, 8, .inl (fun j => nI (gT j)))), (q6, .inl (cI, 2, .inl (fun j => nI (gC j)))), (q7, .inl (cI, 32, .inl (fun j => nI (gO j)))), (q8, .inl (cI, 32, .inl fD)), (q9, .inl (cI, 2, .inl (fun j => nI (gE j))))] s.heap := hP
  have hD : va_D A [(hm, .inr (3, [.int th, .int (nI nd), .ref q0, .ref q1, .int (nI mi), .int (nI ml), .ref q2, .ref q3, .ref q4, .ref q5, .ref q6, .ref q7, .ref q8, .ref q9, .int (nI sp), .int fa])), (q0, .inl (cI, 401, .inl fs)), (q1, .inl (cJ, 25664, .inr (.inl ft))), (q2, .inl (cI, 4, .inl fl)), (q3, .inl (cI, 8, .inl (fun j => nI (gS j)))), (q4, .inl (cI, 8, .inl (fun j => nI (gX j)))), (q5, .inl (cI, 8, .inl (fun j => nI (gT j)))), (q6, .inl (cI, 2, .inl (fun j => nI (gC j)))), (q7, .inl (cI, 32, .inl (fun j => nI (gO j)))), (q8, .inl (cI, 32, .inl fD)), (q9, .inl (cI, 2, .inl (fun j => nI (gE j))))] := hD
  have hl := lv_entry ([.ref hm, .int x]) (n := 5) (Nat.le_of_ble_eq_true rfl)
  rw [lg_entry_eq]
  generalize (lg_sl ([.ref hm, .int x]) ++ List.replicate (5 - (lg_sl ([.ref hm, .int x])).length) Slot.unset).toArray = ls at hl ⊢
  have hl : lv_has ls 5 [(0, .ref hm), (1, .int x)] := hl
  have hin3 : ∀ w ∈ wsX30, w ∈ wsX3_hangs := by decide +kernel
  have kf44 := hts (.fieldLink RX3 44 "SweepEqualModel" "thrown" "I") (by decide +kernel)
  refine lv_aload_n hx hb dX3_hangs_0 rfl (lv_at hl 0 rfl) ?_
  refine lv_aload_n hx hb dX3_hangs_1 rfl (lv_at hl 0 rfl) ?_
  refine lv_iload_n hx hb dX3_hangs_2 rfl (lv_at hl 1 rfl) ?_
  refine rd_V (As := [.int x]) (rest := [.ref hm]) ⟨hx, hb, hml, hown, hts⟩ (c_X3_isLiteral l D cI cJ hm q0 q1 q2 q3 q4 q5 q6 q7 q8 q9 th nd fs ft mi ml fl gS gX gT gC gO fD gE sp fa x) (cwV 1 hts gX3_hangs_X3_isLiteral rfl rfl rfl (by decide +kernel) ⟨Nat.le_of_ble_eq_true rfl, Nat.le_of_ble_eq_true rfl⟩) (rd_pv (ci := 3) (q0 := 0) hK hP rfl rfl) rfl hl.1 rfl (Nat.le_of_ble_eq_true rfl) dX3_hangs_3 ⟨by show _ ≤ _; simp only [headSpec]; omega, by show _ ≤ _; simp only [headSpec]; omega⟩ ?_
  refine tp_i (show zI (decide (¬ x < 0 ∧ ¬ nI (2 * nd) ≤ x)) = nI 0 from lit_f hb0) ?_
  refine lv_if_eq (tgt := 13) hx hb dX3_hangs_6 (by decide) (fun _ => ?_) (fun hc => absurd hc (by decide))
  refine lv_iconst (v := nI 1) hx hb dX3_hangs_13 (by decide) ?_
  refine va_put (D := D) (ci := 3) (v := .int (nI 1)) (ty := .int) (C := RX3) (T := TX3) (N := 16) hx hb hts hin3 tyX3 tyX3_ok nmX3 hown hK hP hD hS 0 rfl rfl 0 (by decide) kf44 (fun _ h9 => h9) rfl (by decide +kernel) rfl rfl (Nat.le_of_ble_eq_true rfl) dX3_hangs_14 (fun H locs hP hD hS => ?_)
  have hP : va_P D vwCl [(hm, .inr (3, [.int (nI 1), .int (nI nd), .ref q0, .ref q1, .int (nI mi), .int (nI ml), .ref q2, .ref q3, .ref q4, .ref q5, .ref q6, .ref q7, .ref q8, .ref q9, .int (nI sp), .int fa])), (q0, .inl (cI, 401, .inl fs)), (q1, .inl (cJ, 25664, .inr (.inl ft))), (q2, .inl (cI, 4, .inl fl)), (q3, .inl (cI, 8, .inl (fun j => nI (gS j)))), (q4, .inl (cI, 8, .inl (fun j => nI (gX j)))), (q5, .inl (cI, 8, .inl (fun j => nI (gT j)))), (q6, .inl (cI, 2, .inl (fun j => nI (gC j)))), (q7, .inl (cI, 32, .inl (fun j => nI (gO j)))), (q8, .inl (cI, 32, .inl fD)), (q9, .inl (cI, 2, .inl (fun j => nI (gE j))))] H := hP
  have hD : va_D A [(hm, .inr (3, [.int (nI 1), .int (nI nd), .ref q0, .ref q1, .int (nI mi), .int (nI ml), .ref q2, .ref q3, .ref q4, .ref q5, .ref q6, .ref q7, .ref q8, .ref q9, .int (nI sp), .int fa])), (q0, .inl (cI, 401, .inl fs)), (q1, .inl (cJ, 25664, .inr (.inl ft))), (q2, .inl (cI, 4, .inl fl)), (q3, .inl (cI, 8, .inl (fun j => nI (gS j)))), (q4, .inl (cI, 8, .inl (fun j => nI (gX j)))), (q5, .inl (cI, 8, .inl (fun j => nI (gT j)))), (q6, .inl (cI, 2, .inl (fun j => nI (gC j)))), (q7, .inl (cI, 32, .inl (fun j => nI (gO j)))), (q8, .inl (cI, 32, .inl fD)), (q9, .inl (cI, 2, .inl (fun j => nI (gE j))))] := hD
  refine lv_iconst (v := nI 0) hx hb dX3_hangs_17 (by decide) ?_
  refine lv_istore_n (lv' := [(2, .int (nI 0)), (0, .ref hm), (1, .int x)]) hx hb dX3_hangs_18 rfl hl (by decide) rfl (fun ls hl => ?_)
  refine lv_iconst (v := nI 0) hx hb dX3_hangs_19 (by decide) ?_
  refine lv_istore_n (lv' := [(3, .int (nI 0)), (2, .int (nI 0)), (0, .ref hm), (1, .int x)]) hx hb dX3_hangs_20 rfl hl (by decide) rfl (fun ls hl => ?_)
  refine lv_iload_n hx hb dX3_hangs_21 rfl (lv_at hl 0 rfl) ?_
  refine lv_bipush (v := nI 12) hx hb dX3_hangs_22 (by decide) ?_
  refine lv_icmp_ge (tgt := 84) hx hb dX3_hangs_24 (by decide) (fun hc => absurd hc (by decide)) (fun _ => ?_)
  refine lv_aload_n hx hb dX3_hangs_27 rfl (lv_at hl 2 rfl) ?_
  refine va_get (D := D) (ci := 3) (v := .int (nI 1)) (C := RX3) (T := TX3) (N := 16) hx hb hts hin3 hown hK hP 0 rfl rfl 0 (by decide) kf44 (fun _ h9 => h9) rfl dX3_hangs_28 ?_
  refine lv_if_ne (tgt := 84) hx hb dX3_hangs_31 (by decide) (fun _ => ?_) (fun hc => absurd hc (by decide))
  refine lv_iload_n hx hb dX3_hangs_84 rfl (lv_at hl 1 rfl) ?_
  exact wr_i (()) hx hb hr hlocks hP hD hS dX3_hangs_85 (rfl) (trivial)
set_option maxHeartbeats 4000000 in
set_option maxRecDepth 100000 in
/-- ones -/
theorem w_X3_ones (lit : Nat) (h1 : lit < 2 * nd) (hnd : nd ≤ 400) (hmi : mi ≤ 8) (hml9 : ml ≤ 4) (sz : Nat) : Met l yX3_ones wsX3_ones { frames := 1, cells := 0, slots := 0, locals := 24 } (wr_P D [(cI, .int), (cJ, .long)] (mW hm q0 q1 q2 q3 q4 q5 q6 q7 q8 q9 cI cJ th nd fs ft mi ml fl gS gX gT gC gO fD gE sp fa) sz tp [.ref hm, .int (nI lit)]) (wx (Su := Unit) D [(cI, .int), (cJ, .long)] (va_A (mW hm q0 q1 q2 q3 q4 q5 q6 q7 q8 q9 cI cJ th nd fs ft mi ml fl gS gX gT gC gO fD gE sp fa) sz) (fun _ => some (.int (nI (onM ft lit (prN mi ml) 4096)))) (fun _ => True) (fun _ => mW hm q0 q1 q2 q3 q4 q5 q6 q7 q8 q9 cI cJ (nI 0) nd fs ft mi ml fl gS gX gT gC gO fD gE sp fa)) 0 0 (va_A (mW hm q0 q1 q2 q3 q4 q5 q6 q7 q8 q9 cI cJ th nd fs ft mi ml fl gS gX gT gC gO fD gE sp fa) sz) := by
  refine Met.ofW (cc := cX3_ones) (maxL := 4) (ret := (some .int)) (by decide) rfl ?_
  intro p e s m args below meth c s₁ B hml hv
  obtain ⟨rfl, hsz, ⟨hP, hK, hD0⟩, hE⟩ := hv
  have hx := B.exec
  have hb := B.bytes
  have hr := B.returns
  have hts := atoms_spec (ws := wsX3_ones) B.pre
  have hown : s.vm.findClass RX3 = some m.cls := findClass_of_methodNamed B.named
  have hlocks := B.notSynchronized
  subst hsz
  have hD := hD0.self (sz := s.heap.size)
  generalize hAe : va_A (mW hm q0 q1 q2 q3 q4 q5 q6 q7 q8 q9 cI cJ th nd fs ft mi ml fl gS gX gT gC gO fD gE sp fa) s.heap.size = A at hD hE ⊢
  have hA : ∀ q : Nat, s.heap.size ≤ q → A q := fun q h => by rw [← hAe]; exact Or.inr h
  have hS : va_S A s.heap s.heap [] := va_S.rf
  have hP : va_P D vwCl [(hm, .inr (3, [.int th, .int (nI nd), .ref q0, .ref q1, .int (nI mi), .int (nI ml), .ref q2, .ref q3, .ref q4, .ref q5, .ref q6, .ref q7, .ref q8, .ref q9, .int (nI sp), .int fa])), (q0, .inl (cI, 401, .inl fs)), (q1, .inl (cJ, 25664, .inr (.inl ft))), (q2, .inl (cI, 4, .inl fl)), (q3, .inl (cI, 8, .inl (fun j => nI (gS j)))), (q4, .inl (cI, 8, .inl (fun j => nI (gX j)))), (q5, .inl (cI, 8, .inl (fun j => nI (gT j)))), (q6, .inl (cI, 2, .inl (fun j => nI (gC j)))), (q7, .inl (cI, 32, .inl (fun j => nI (gO j)))), (q8, .inl (cI, 32, .inl fD)), (q9, .inl (cI, 2, .inl (fun j => nI (gE j))))] s.heap := hP
  have hD : va_D A [(hm, .inr (3, [.int th, .int (nI nd), .ref q0, .ref q1, .int (nI mi), .int (nI ml), .ref q2, .ref q3, .ref q4, .ref q5, .ref q6, .ref q7, .ref q8, .ref q9, .int (nI sp), .int fa])), (q0, .inl (cI, 401, .inl fs)), (q1, .inl (cJ, 25664, .inr (.inl ft))), (q2, .inl (cI, 4, .inl fl)), (q3, .inl (cI, 8, .inl (fun j => nI (gS j)))), (q4, .inl (cI, 8, .inl (fun j => nI (gX j)))), (q5, .inl (cI, 8, .inl (fun j => nI (gT j)))), (q6, .inl (cI, 2, .inl (fun j => nI (gC j)))), (q7, .inl (cI, 32, .inl (fun j => nI (gO j)))), (q8, .inl (cI, 32, .inl fD)), (q9, .inl (cI, 2, .inl (fun j => nI (gE j))))] := hD
  have hl := lv_entry ([.ref hm, .int (nI lit)]) (n := 4) (Nat.le_of_ble_eq_true rfl)
  rw [lg_entry_eq]
  generalize (lg_sl ([.ref hm, .int (nI lit)]) ++ List.replicate (4 - (lg_sl ([.ref hm, .int (nI lit)])).length) Slot.unset).toArray = ls at hl ⊢
  have hl : lv_has ls 4 [(0, .ref hm), (1, .int (nI lit))] := hl
  have hin3 : ∀ w ∈ wsX30, w ∈ wsX3_ones := by decide +kernel
  have kf44 := hts (.fieldLink RX3 44 "SweepEqualModel" "thrown" "I") (by decide +kernel)
  refine lv_aload_n hx hb dX3_ones_0 rfl (lv_at hl 0 rfl) ?_
  refine lv_aload_n hx hb dX3_ones_1 rfl (lv_at hl 0 rfl) ?_
  refine lv_iload_n hx hb dX3_ones_2 rfl (lv_at hl 1 rfl) ?_
  refine rd_V (As := [.int (nI lit)]) (rest := [.ref hm]) ⟨hx, hb, hml, hown, hts⟩ (c_X3_isLiteral l D cI cJ hm q0 q1 q2 q3 q4 q5 q6 q7 q8 q9 th nd fs ft mi ml fl gS gX gT gC gO fD gE sp fa (nI lit)) (cwV 1 hts gX3_ones_X3_isLiteral rfl rfl rfl (by decide +kernel) ⟨Nat.le_of_ble_eq_true rfl, Nat.le_of_ble_eq_true rfl⟩) (rd_pv (ci := 3) (q0 := 0) hK hP rfl rfl) rfl hl.1 rfl (Nat.le_of_ble_eq_true rfl) dX3_ones_3 ⟨by show _ ≤ _; simp only [headSpec]; omega, by show _ ≤ _; simp only [headSpec]; omega⟩ ?_
  refine tp_i (show zI (decide (¬ nI lit < 0 ∧ ¬ nI (2 * nd) ≤ nI lit)) = nI 1 from lit_t h1 (by omega)) ?_
  refine lv_if_eq (tgt := 13) hx hb dX3_ones_6 (by decide) (fun hc => absurd hc (by decide)) (fun _ => ?_)
  refine lv_iconst (v := nI 0) hx hb dX3_ones_9 (by decide) ?_
  refine lv_goto (tgt := 14) hx hb dX3_ones_10 (by decide) ?_
  refine va_put (D := D) (ci := 3) (v := .int (nI 0)) (ty := .int) (C := RX3) (T := TX3) (N := 16) hx hb hts hin3 tyX3 tyX3_ok nmX3 hown hK hP hD hS 0 rfl rfl 0 (by decide) kf44 (fun _ h9 => h9) rfl (by decide +kernel) rfl rfl (Nat.le_of_ble_eq_true rfl) dX3_ones_14 (fun H locs hP hD hS => ?_)
  have hP : va_P D vwCl [(hm, .inr (3, [.int (nI 0), .int (nI nd), .ref q0, .ref q1, .int (nI mi), .int (nI ml), .ref q2, .ref q3, .ref q4, .ref q5, .ref q6, .ref q7, .ref q8, .ref q9, .int (nI sp), .int fa])), (q0, .inl (cI, 401, .inl fs)), (q1, .inl (cJ, 25664, .inr (.inl ft))), (q2, .inl (cI, 4, .inl fl)), (q3, .inl (cI, 8, .inl (fun j => nI (gS j)))), (q4, .inl (cI, 8, .inl (fun j => nI (gX j)))), (q5, .inl (cI, 8, .inl (fun j => nI (gT j)))), (q6, .inl (cI, 2, .inl (fun j => nI (gC j)))), (q7, .inl (cI, 32, .inl (fun j => nI (gO j)))), (q8, .inl (cI, 32, .inl fD)), (q9, .inl (cI, 2, .inl (fun j => nI (gE j))))] H := hP
  have hD : va_D A [(hm, .inr (3, [.int (nI 0), .int (nI nd), .ref q0, .ref q1, .int (nI mi), .int (nI ml), .ref q2, .ref q3, .ref q4, .ref q5, .ref q6, .ref q7, .ref q8, .ref q9, .int (nI sp), .int fa])), (q0, .inl (cI, 401, .inl fs)), (q1, .inl (cJ, 25664, .inr (.inl ft))), (q2, .inl (cI, 4, .inl fl)), (q3, .inl (cI, 8, .inl (fun j => nI (gS j)))), (q4, .inl (cI, 8, .inl (fun j => nI (gX j)))), (q5, .inl (cI, 8, .inl (fun j => nI (gT j)))), (q6, .inl (cI, 2, .inl (fun j => nI (gC j)))), (q7, .inl (cI, 32, .inl (fun j => nI (gO j)))), (q8, .inl (cI, 32, .inl fD)), (q9, .inl (cI, 2, .inl (fun j => nI (gE j))))] := hD
  refine lv_iconst (v := nI 0) hx hb dX3_ones_17 (by decide) ?_
  refine lv_istore_n (lv' := [(2, .int (nI 0)), (0, .ref hm), (1, .int (nI lit))]) hx hb dX3_ones_18 rfl hl (by decide) rfl (fun ls hl => ?_)
  refine lv_iconst (v := nI 0) hx hb dX3_ones_19 (by decide) ?_
  refine lv_istore_n (lv' := [(3, .int (nI 0)), (2, .int (nI 0)), (0, .ref hm), (1, .int (nI lit))]) hx hb dX3_ones_20 rfl hl (by decide) rfl (fun ls hl => ?_)
  have loop : ∀ (n : Nat) (a : Nat), a ≤ 4096 → 4096 - a < n → ∀ (H : Heap) (locs : List Loc) (ls : Array Slot), va_P D vwCl [(hm, .inr (3, [.int (nI 0), .int (nI nd), .ref q0, .ref q1, .int (nI mi), .int (nI ml), .ref q2, .ref q3, .ref q4, .ref q5, .ref q6, .ref q7, .ref q8, .ref q9, .int (nI sp), .int fa])), (q0, .inl (cI, 401, .inl fs)), (q1, .inl (cJ, 25664, .inr (.inl ft))), (q2, .inl (cI, 4, .inl fl)), (q3, .inl (cI, 8, .inl (fun j => nI (gS j)))), (q4, .inl (cI, 8, .inl (fun j => nI (gX j)))), (q5, .inl (cI, 8, .inl (fun j => nI (gT j)))), (q6, .inl (cI, 2, .inl (fun j => nI (gC j)))), (q7, .inl (cI, 32, .inl (fun j => nI (gO j)))), (q8, .inl (cI, 32, .inl fD)), (q9, .inl (cI, 2, .inl (fun j => nI (gE j))))] H → va_D A [(hm, .inr (3, [.int (nI 0), .int (nI nd), .ref q0, .ref q1, .int (nI mi), .int (nI ml), .ref q2, .ref q3, .ref q4, .ref q5, .ref q6, .ref q7, .ref q8, .ref q9, .int (nI sp), .int fa])), (q0, .inl (cI, 401, .inl fs)), (q1, .inl (cJ, 25664, .inr (.inl ft))), (q2, .inl (cI, 4, .inl fl)), (q3, .inl (cI, 8, .inl (fun j => nI (gS j)))), (q4, .inl (cI, 8, .inl (fun j => nI (gX j)))), (q5, .inl (cI, 8, .inl (fun j => nI (gT j)))), (q6, .inl (cI, 2, .inl (fun j => nI (gC j)))), (q7, .inl (cI, 32, .inl (fun j => nI (gO j)))), (q8, .inl (cI, 32, .inl fD)), (q9, .inl (cI, 2, .inl (fun j => nI (gE j))))] → va_S A s.heap H locs → lv_has ls 4 [(3, .int (nI a)), (2, .int (nI (onM ft lit (prN mi ml) a))), (0, .ref hm), (1, .int (nI lit))] → W p l e (headSpec wsX3_ones { frames := 1, cells := 0, slots := 0, locals := 24 }).room s m ([.ref hm, .int (nI lit)] : List Value).toArray below meth c H locs 0 0 (MQ below (wx (Su := Unit) D [(cI, .int), (cJ, .long)] A (fun _ => some (.int (nI (onM ft lit (prN mi ml) 4096)))) (fun _ => True) (fun _ => mW hm q0 q1 q2 q3 q4 q5 q6 q7 q8 q9 cI cJ (nI 0) nd fs ft mi ml fl gS gX gT gC gO fD gE sp fa)) ([.ref hm, .int (nI lit)] : List Value).toArray s 0 0 A) (F0 m 21 ls []) := by
    intro n
    induction n with
    | zero => intro a ha hM; exact absurd hM (Nat.not_lt_zero _)
    | succ n ih =>
      intro a ha hM H locs ls hP hD hS hl
      have hle : a &&& prN mi ml ≤ a := Nat.and_le_left
      refine lv_iload_n hx hb dX3_ones_21 rfl (lv_at hl 0 rfl) ?_
      refine lv_sipush (v := nI 4096) hx hb dX3_ones_22 (by decide) ?_
      refine lv_icmp_ge (tgt := 60) hx hb dX3_ones_25 (by decide) (fun c1 => ?_) (fun c1 => ?_)
      · have c1 : 4096 ≤ a := (nI_leI (by omega) (by omega)).mp c1
        have hi2 : a = 4096 := by omega
        refine lv_iload_n hx hb dX3_ones_60 rfl (lv_at hl 1 rfl) ?_
        exact wr_i (()) hx hb hr hlocks hP hD hS dX3_ones_61 (by rw [hi2]) (trivial)
      · have c1 : ¬ (4096 ≤ a) := fun h => c1 ((nI_leI (by omega) (by omega)).mpr h)
        refine lv_aload_n hx hb dX3_ones_28 rfl (lv_at hl 2 rfl) ?_
        refine va_get (D := D) (ci := 3) (v := .int (nI 0)) (C := RX3) (T := TX3) (N := 16) hx hb hts hin3 hown hK hP 0 rfl rfl 0 (by decide) kf44 (fun _ h9 => h9) rfl dX3_ones_29 ?_
        refine lv_if_ne (tgt := 60) hx hb dX3_ones_32 (by decide) (fun hc => absurd hc (by decide)) (fun _ => ?_)
        refine lv_iload_n hx hb dX3_ones_35 rfl (lv_at hl 0 rfl) ?_
        refine lv_aload_n hx hb dX3_ones_36 rfl (lv_at hl 2 rfl) ?_
        refine rd_V (As := []) (rest := [.int (nI a)]) ⟨hx, hb, hml, hown, hts⟩ (c_X3_present l D cI cJ hm q0 q1 q2 q3 q4 q5 q6 q7 q8 q9 (nI 0) nd fs ft mi ml fl gS gX gT gC gO fD gE sp fa hmi hml9) (cwV 0 hts gX3_ones_X3_present rfl rfl rfl (by decide +kernel) ⟨Nat.le_of_ble_eq_true rfl, Nat.le_of_ble_eq_true rfl⟩) (rd_pv (ci := 3) (q0 := 0) hK hP rfl rfl) rfl hl.1 rfl (Nat.le_of_ble_eq_true rfl) dX3_ones_37 ⟨by show _ ≤ _; simp only [headSpec]; omega, by show _ ≤ _; simp only [headSpec]; omega⟩ ?_
        refine lv_iand hx hb dX3_ones_40 ?_
        refine tp_i (show (nI a) &&& (nI (prN mi ml)) = nI (a &&& prN mi ml) from n_and _ _) ?_
        refine lv_iload_n hx hb dX3_ones_41 rfl (lv_at hl 0 rfl) ?_
        refine lv_icmp_ne (tgt := 54) hx hb dX3_ones_42 (by decide) (fun c2 => ?_) (fun c2 => ?_)
        · have c2 : ¬ a &&& prN mi ml = a := fun h => c2 ((nI_eq (by omega) (by omega)).mpr h)
          refine lv_iinc (v := nI (a + 1)) (lv' := [(3, .int (nI (a + 1))), (2, .int (nI (onM ft lit (prN mi ml) a))), (0, .ref hm), (1, .int (nI lit))]) hx hb dX3_ones_54 hl (k := 0) rfl (nI_add a 1) (by decide) rfl (fun ls hl => ?_)
          refine lv_goto (tgt := 21) hx hb dX3_ones_57 (by decide) ?_
          exact ih (a + 1) (by omega) (by omega) _ _ ls hP hD hS (by rw [show onM ft lit (prN mi ml) (a + 1) = onM ft lit (prN mi ml) a from by simp [onM, c2]]; exact lv_sub hl [0, 1, 2, 3] rfl)
        · have c2 : a &&& prN mi ml = a := (nI_eq (by omega) (by omega)).mp c2
          refine lv_iload_n hx hb dX3_ones_45 rfl (lv_at hl 1 rfl) ?_
          refine lv_aload_n hx hb dX3_ones_46 rfl (lv_at hl 2 rfl) ?_
          refine lv_iload_n hx hb dX3_ones_47 rfl (lv_at hl 3 rfl) ?_
          refine lv_iload_n hx hb dX3_ones_48 rfl (lv_at hl 0 rfl) ?_
          refine rd_V (As := [.int (nI lit), .int (nI a)]) (rest := [.int (nI (onM ft lit (prN mi ml) a))]) ⟨hx, hb, hml, hown, hts⟩ (c_X3_bit l D cI cJ hm q0 q1 q2 q3 q4 q5 q6 q7 q8 q9 (nI 0) nd fs ft mi ml fl gS gX gT gC gO fD gE sp fa lit a (by omega) (by omega)) (cwV 2 hts gX3_ones_X3_bit rfl rfl rfl (by decide +kernel) ⟨Nat.le_of_ble_eq_true rfl, Nat.le_of_ble_eq_true rfl⟩) (rd_pv (ci := 3) (q0 := 0) hK hP rfl rfl) rfl hl.1 rfl (Nat.le_of_ble_eq_true rfl) dX3_ones_49 ⟨by show _ ≤ _; simp only [headSpec]; omega, by show _ ≤ _; simp only [headSpec]; omega⟩ ?_
          refine tp_i (show zI (bt ft lit a) = nI ((bt ft lit a).toNat) from zI_nat _) ?_
          refine lv_iadd hx hb dX3_ones_52 ?_
          refine tp_i (show (nI (onM ft lit (prN mi ml) a)) + (nI ((bt ft lit a).toNat)) = nI (onM ft lit (prN mi ml) a + ((bt ft lit a).toNat)) from nI_add _ _) ?_
          refine lv_istore_n (lv' := [(2, .int (nI (onM ft lit (prN mi ml) a + ((bt ft lit a).toNat)))), (3, .int (nI a)), (0, .ref hm), (1, .int (nI lit))]) hx hb dX3_ones_53 rfl hl (by decide) rfl (fun ls hl => ?_)
          refine lv_iinc (v := nI (a + 1)) (lv' := [(3, .int (nI (a + 1))), (2, .int (nI (onM ft lit (prN mi ml) a + ((bt ft lit a).toNat)))), (0, .ref hm), (1, .int (nI lit))]) hx hb dX3_ones_54 hl (k := 1) rfl (nI_add a 1) (by decide) rfl (fun ls hl => ?_)
          refine lv_goto (tgt := 21) hx hb dX3_ones_57 (by decide) ?_
          exact ih (a + 1) (by omega) (by omega) _ _ ls hP hD hS (by rw [show onM ft lit (prN mi ml) (a + 1) = onM ft lit (prN mi ml) a + (bt ft lit a).toNat from by simp [onM, c2]]; exact lv_sub hl [0, 1, 2, 3] rfl)
  exact loop (4096 - 0 + 1) 0 (by omega) (by omega) _ _ ls hP hD hS (lv_sub hl [0, 1, 2, 3] rfl)
set_option maxHeartbeats 4000000 in
set_option maxRecDepth 100000 in
/-- ones: no such literal -/
theorem w_X3_onesB (x : Int32) (hb0 : (x < 0 ∨ nI (2 * nd) ≤ x)) (sz : Nat) : Met l yX3_ones wsX3_ones { frames := 1, cells := 0, slots := 0, locals := 24 } (wr_P D [(cI, .int), (cJ, .long)] (mW hm q0 q1 q2 q3 q4 q5 q6 q7 q8 q9 cI cJ th nd fs ft mi ml fl gS gX gT gC gO fD gE sp fa) sz tp [.ref hm, .int x]) (wx (Su := Unit) D [(cI, .int), (cJ, .long)] (va_A (mW hm q0 q1 q2 q3 q4 q5 q6 q7 q8 q9 cI cJ th nd fs ft mi ml fl gS gX gT gC gO fD gE sp fa) sz) (fun _ => some (.int (nI 0))) (fun _ => True) (fun _ => mW hm q0 q1 q2 q3 q4 q5 q6 q7 q8 q9 cI cJ (nI 1) nd fs ft mi ml fl gS gX gT gC gO fD gE sp fa)) 0 0 (va_A (mW hm q0 q1 q2 q3 q4 q5 q6 q7 q8 q9 cI cJ th nd fs ft mi ml fl gS gX gT gC gO fD gE sp fa) sz) := by
  refine Met.ofW (cc := cX3_ones) (maxL := 4) (ret := (some .int)) (by decide) rfl ?_
  intro p e s m args below meth c s₁ B hml hv
  obtain ⟨rfl, hsz, ⟨hP, hK, hD0⟩, hE⟩ := hv
  have hx := B.exec
  have hb := B.bytes
  have hr := B.returns
  have hts := atoms_spec (ws := wsX3_ones) B.pre
  have hown : s.vm.findClass RX3 = some m.cls := findClass_of_methodNamed B.named
  have hlocks := B.notSynchronized
  subst hsz
  have hD := hD0.self (sz := s.heap.size)
  generalize hAe : va_A (mW hm q0 q1 q2 q3 q4 q5 q6 q7 q8 q9 cI cJ th nd fs ft mi ml fl gS gX gT gC gO fD gE sp fa) s.heap.size = A at hD hE ⊢
  have hA : ∀ q : Nat, s.heap.size ≤ q → A q := fun q h => by rw [← hAe]; exact Or.inr h
  have hS : va_S A s.heap s.heap [] := va_S.rf
  have hP : va_P D vwCl [(hm, .inr (3, [.int th, .int (nI nd), .ref q0, .ref q1, .int (nI mi), .int (nI ml), .ref q2, .ref q3, .ref q4, .ref q5, .ref q6, .ref q7, .ref q8, .ref q9, .int (nI sp), .int fa])), (q0, .inl (cI, 401, .inl fs)), (q1, .inl (cJ, 25664, .inr (.inl ft))), (q2, .inl (cI, 4, .inl fl)), (q3, .inl (cI, 8, .inl (fun j => nI (gS j)))), (q4, .inl (cI, 8, .inl (fun j => nI (gX j)))), (q5, .inl (cI, 8, .inl (fun j => nI (gT j)))), (q6, .inl (cI, 2, .inl (fun j => nI (gC j)))), (q7, .inl (cI, 32, .inl (fun j => nI (gO j)))), (q8, .inl (cI, 32, .inl fD)), (q9, .inl (cI, 2, .inl (fun j => nI (gE j))))] s.heap := hP
  have hD : va_D A [(hm, .inr (3, [.int th, .int (nI nd), .ref q0, .ref q1, .int (nI mi), .int (nI ml), .ref q2, .ref q3, .ref q4, .ref q5, .ref q6, .ref q7, .ref q8, .ref q9, .int (nI sp), .int fa])), (q0, .inl (cI, 401, .inl fs)), (q1, .inl (cJ, 25664, .inr (.inl ft))), (q2, .inl (cI, 4, .inl fl)), (q3, .inl (cI, 8, .inl (fun j => nI (gS j)))), (q4, .inl (cI, 8, .inl (fun j => nI (gX j)))), (q5, .inl (cI, 8, .inl (fun j => nI (gT j)))), (q6, .inl (cI, 2, .inl (fun j => nI (gC j)))), (q7, .inl (cI, 32, .inl (fun j => nI (gO j)))), (q8, .inl (cI, 32, .inl fD)), (q9, .inl (cI, 2, .inl (fun j => nI (gE j))))] := hD
  have hl := lv_entry ([.ref hm, .int x]) (n := 4) (Nat.le_of_ble_eq_true rfl)
  rw [lg_entry_eq]
  generalize (lg_sl ([.ref hm, .int x]) ++ List.replicate (4 - (lg_sl ([.ref hm, .int x])).length) Slot.unset).toArray = ls at hl ⊢
  have hl : lv_has ls 4 [(0, .ref hm), (1, .int x)] := hl
  have hin3 : ∀ w ∈ wsX30, w ∈ wsX3_ones := by decide +kernel
  have kf44 := hts (.fieldLink RX3 44 "SweepEqualModel" "thrown" "I") (by decide +kernel)
  refine lv_aload_n hx hb dX3_ones_0 rfl (lv_at hl 0 rfl) ?_
  refine lv_aload_n hx hb dX3_ones_1 rfl (lv_at hl 0 rfl) ?_
  refine lv_iload_n hx hb dX3_ones_2 rfl (lv_at hl 1 rfl) ?_
  refine rd_V (As := [.int x]) (rest := [.ref hm]) ⟨hx, hb, hml, hown, hts⟩ (c_X3_isLiteral l D cI cJ hm q0 q1 q2 q3 q4 q5 q6 q7 q8 q9 th nd fs ft mi ml fl gS gX gT gC gO fD gE sp fa x) (cwV 1 hts gX3_ones_X3_isLiteral rfl rfl rfl (by decide +kernel) ⟨Nat.le_of_ble_eq_true rfl, Nat.le_of_ble_eq_true rfl⟩) (rd_pv (ci := 3) (q0 := 0) hK hP rfl rfl) rfl hl.1 rfl (Nat.le_of_ble_eq_true rfl) dX3_ones_3 ⟨by show _ ≤ _; simp only [headSpec]; omega, by show _ ≤ _; simp only [headSpec]; omega⟩ ?_
  refine tp_i (show zI (decide (¬ x < 0 ∧ ¬ nI (2 * nd) ≤ x)) = nI 0 from lit_f hb0) ?_
  refine lv_if_eq (tgt := 13) hx hb dX3_ones_6 (by decide) (fun _ => ?_) (fun hc => absurd hc (by decide))
  refine lv_iconst (v := nI 1) hx hb dX3_ones_13 (by decide) ?_
  refine va_put (D := D) (ci := 3) (v := .int (nI 1)) (ty := .int) (C := RX3) (T := TX3) (N := 16) hx hb hts hin3 tyX3 tyX3_ok nmX3 hown hK hP hD hS 0 rfl rfl 0 (by decide) kf44 (fun _ h9 => h9) rfl (by decide +kernel) rfl rfl (Nat.le_of_ble_eq_true rfl) dX3_ones_14 (fun H locs hP hD hS => ?_)
  have hP : va_P D vwCl [(hm, .inr (3, [.int (nI 1), .int (nI nd), .ref q0, .ref q1, .int (nI mi), .int (nI ml), .ref q2, .ref q3, .ref q4, .ref q5, .ref q6, .ref q7, .ref q8, .ref q9, .int (nI sp), .int fa])), (q0, .inl (cI, 401, .inl fs)), (q1, .inl (cJ, 25664, .inr (.inl ft))), (q2, .inl (cI, 4, .inl fl)), (q3, .inl (cI, 8, .inl (fun j => nI (gS j)))), (q4, .inl (cI, 8, .inl (fun j => nI (gX j)))), (q5, .inl (cI, 8, .inl (fun j => nI (gT j)))), (q6, .inl (cI, 2, .inl (fun j => nI (gC j)))), (q7, .inl (cI, 32, .inl (fun j => nI (gO j)))), (q8, .inl (cI, 32, .inl fD)), (q9, .inl (cI, 2, .inl (fun j => nI (gE j))))] H := hP
  have hD : va_D A [(hm, .inr (3, [.int (nI 1), .int (nI nd), .ref q0, .ref q1, .int (nI mi), .int (nI ml), .ref q2, .ref q3, .ref q4, .ref q5, .ref q6, .ref q7, .ref q8, .ref q9, .int (nI sp), .int fa])), (q0, .inl (cI, 401, .inl fs)), (q1, .inl (cJ, 25664, .inr (.inl ft))), (q2, .inl (cI, 4, .inl fl)), (q3, .inl (cI, 8, .inl (fun j => nI (gS j)))), (q4, .inl (cI, 8, .inl (fun j => nI (gX j)))), (q5, .inl (cI, 8, .inl (fun j => nI (gT j)))), (q6, .inl (cI, 2, .inl (fun j => nI (gC j)))), (q7, .inl (cI, 32, .inl (fun j => nI (gO j)))), (q8, .inl (cI, 32, .inl fD)), (q9, .inl (cI, 2, .inl (fun j => nI (gE j))))] := hD
  refine lv_iconst (v := nI 0) hx hb dX3_ones_17 (by decide) ?_
  refine lv_istore_n (lv' := [(2, .int (nI 0)), (0, .ref hm), (1, .int x)]) hx hb dX3_ones_18 rfl hl (by decide) rfl (fun ls hl => ?_)
  refine lv_iconst (v := nI 0) hx hb dX3_ones_19 (by decide) ?_
  refine lv_istore_n (lv' := [(3, .int (nI 0)), (2, .int (nI 0)), (0, .ref hm), (1, .int x)]) hx hb dX3_ones_20 rfl hl (by decide) rfl (fun ls hl => ?_)
  refine lv_iload_n hx hb dX3_ones_21 rfl (lv_at hl 0 rfl) ?_
  refine lv_sipush (v := nI 4096) hx hb dX3_ones_22 (by decide) ?_
  refine lv_icmp_ge (tgt := 60) hx hb dX3_ones_25 (by decide) (fun hc => absurd hc (by decide)) (fun _ => ?_)
  refine lv_aload_n hx hb dX3_ones_28 rfl (lv_at hl 2 rfl) ?_
  refine va_get (D := D) (ci := 3) (v := .int (nI 1)) (C := RX3) (T := TX3) (N := 16) hx hb hts hin3 hown hK hP 0 rfl rfl 0 (by decide) kf44 (fun _ h9 => h9) rfl dX3_ones_29 ?_
  refine lv_if_ne (tgt := 60) hx hb dX3_ones_32 (by decide) (fun _ => ?_) (fun hc => absurd hc (by decide))
  refine lv_iload_n hx hb dX3_ones_60 rfl (lv_at hl 1 rfl) ?_
  exact wr_i (()) hx hb hr hlocks hP hD hS dX3_ones_61 (rfl) (trivial)
set_option maxHeartbeats 4000000 in
set_option maxRecDepth 100000 in
/-- value -/
theorem w_X3_value (lit : Nat) (av : Int32) (k : Nat) (hk : av &&& nI (prN mi ml) = nI k) (hk2 : k < 4096) (h1 : lit < 2 * nd) (hnd : nd ≤ 400) (hmi : mi ≤ 8) (hml9 : ml ≤ 4) (sz : Nat) : Met l yX3_value wsX3_value { frames := 1, cells := 0, slots := 0, locals := 24 } (wr_P D [(cI, .int), (cJ, .long)] (mW hm q0 q1 q2 q3 q4 q5 q6 q7 q8 q9 cI cJ th nd fs ft mi ml fl gS gX gT gC gO fD gE sp fa) sz tp [.ref hm, .int (nI lit), .int av]) (wx (Su := Unit) D [(cI, .int), (cJ, .long)] (va_A (mW hm q0 q1 q2 q3 q4 q5 q6 q7 q8 q9 cI cJ th nd fs ft mi ml fl gS gX gT gC gO fD gE sp fa) sz) (fun _ => some (.int (zI (bt ft lit k)))) (fun _ => True) (fun _ => mW hm q0 q1 q2 q3 q4 q5 q6 q7 q8 q9 cI cJ (nI 0) nd fs ft mi ml fl gS gX gT gC gO fD gE sp fa)) 0 0 (va_A (mW hm q0 q1 q2 q3 q4 q5 q6 q7 q8 q9 cI cJ th nd fs ft mi ml fl gS gX gT gC gO fD gE sp fa) sz) := by
  refine Met.ofW (cc := cX3_value) (maxL := 3) (ret := (some .int)) (by decide) rfl ?_
  intro p e s m args below meth c s₁ B hml hv
  obtain ⟨rfl, hsz, ⟨hP, hK, hD0⟩, hE⟩ := hv
  have hx := B.exec
  have hb := B.bytes
  have hr := B.returns
  have hts := atoms_spec (ws := wsX3_value) B.pre
  have hown : s.vm.findClass RX3 = some m.cls := findClass_of_methodNamed B.named
  have hlocks := B.notSynchronized
  subst hsz
  have hD := hD0.self (sz := s.heap.size)
  generalize hAe : va_A (mW hm q0 q1 q2 q3 q4 q5 q6 q7 q8 q9 cI cJ th nd fs ft mi ml fl gS gX gT gC gO fD gE sp fa) s.heap.size = A at hD hE ⊢
  have hA : ∀ q : Nat, s.heap.size ≤ q → A q := fun q h => by rw [← hAe]; exact Or.inr h
  have hS : va_S A s.heap s.heap [] := va_S.rf
  have hP : va_P D vwCl [(hm, .inr (3, [.int th, .int (nI nd), .ref q0, .ref q1, .int (nI mi), .int (nI ml), .ref q2, .ref q3, .ref q4, .ref q5, .ref q6, .ref q7, .ref q8, .ref q9, .int (nI sp), .int fa])), (q0, .inl (cI, 401, .inl fs)), (q1, .inl (cJ, 25664, .inr (.inl ft))), (q2, .inl (cI, 4, .inl fl)), (q3, .inl (cI, 8, .inl (fun j => nI (gS j)))), (q4, .inl (cI, 8, .inl (fun j => nI (gX j)))), (q5, .inl (cI, 8, .inl (fun j => nI (gT j)))), (q6, .inl (cI, 2, .inl (fun j => nI (gC j)))), (q7, .inl (cI, 32, .inl (fun j => nI (gO j)))), (q8, .inl (cI, 32, .inl fD)), (q9, .inl (cI, 2, .inl (fun j => nI (gE j))))] s.heap := hP
  have hD : va_D A [(hm, .inr (3, [.int th, .int (nI nd), .ref q0, .ref q1, .int (nI mi), .int (nI ml), .ref q2, .ref q3, .ref q4, .ref q5, .ref q6, .ref q7, .ref q8, .ref q9, .int (nI sp), .int fa])), (q0, .inl (cI, 401, .inl fs)), (q1, .inl (cJ, 25664, .inr (.inl ft))), (q2, .inl (cI, 4, .inl fl)), (q3, .inl (cI, 8, .inl (fun j => nI (gS j)))), (q4, .inl (cI, 8, .inl (fun j => nI (gX j)))), (q5, .inl (cI, 8, .inl (fun j => nI (gT j)))), (q6, .inl (cI, 2, .inl (fun j => nI (gC j)))), (q7, .inl (cI, 32, .inl (fun j => nI (gO j)))), (q8, .inl (cI, 32, .inl fD)), (q9, .inl (cI, 2, .inl (fun j => nI (gE j))))] := hD
  have hl := lv_entry ([.ref hm, .int (nI lit), .int av]) (n := 3) (Nat.le_of_ble_eq_true rfl)
  rw [lg_entry_eq]
  generalize (lg_sl ([.ref hm, .int (nI lit), .int av]) ++ List.replicate (3 - (lg_sl ([.ref hm, .int (nI lit), .int av])).length) Slot.unset).toArray = ls at hl ⊢
  have hl : lv_has ls 3 [(0, .ref hm), (1, .int (nI lit)), (2, .int av)] := hl
  have hin3 : ∀ w ∈ wsX30, w ∈ wsX3_value := by decide +kernel
  have kf44 := hts (.fieldLink RX3 44 "SweepEqualModel" "thrown" "I") (by decide +kernel)
  refine lv_aload_n hx hb dX3_value_0 rfl (lv_at hl 0 rfl) ?_
  refine lv_aload_n hx hb dX3_value_1 rfl (lv_at hl 0 rfl) ?_
  refine lv_iload_n hx hb dX3_value_2 rfl (lv_at hl 1 rfl) ?_
  refine rd_V (As := [.int (nI lit)]) (rest := [.ref hm]) ⟨hx, hb, hml, hown, hts⟩ (c_X3_isLiteral l D cI cJ hm q0 q1 q2 q3 q4 q5 q6 q7 q8 q9 th nd fs ft mi ml fl gS gX gT gC gO fD gE sp fa (nI lit)) (cwV 1 hts gX3_value_X3_isLiteral rfl rfl rfl (by decide +kernel) ⟨Nat.le_of_ble_eq_true rfl, Nat.le_of_ble_eq_true rfl⟩) (rd_pv (ci := 3) (q0 := 0) hK hP rfl rfl) rfl hl.1 rfl (Nat.le_of_ble_eq_true rfl) dX3_value_3 ⟨by show _ ≤ _; simp only [headSpec]; omega, by show _ ≤ _; simp only [headSpec]; omega⟩ ?_
  refine tp_i (show zI (decide (¬ nI lit < 0 ∧ ¬ nI (2 * nd) ≤ nI lit)) = nI 1 from lit_t h1 (by omega)) ?_
  refine lv_if_eq (tgt := 13) hx hb dX3_value_6 (by decide) (fun hc => absurd hc (by decide)) (fun _ => ?_)
  refine lv_iconst (v := nI 0) hx hb dX3_value_9 (by decide) ?_
  refine lv_goto (tgt := 14) hx hb dX3_value_10 (by decide) ?_
  refine va_put (D := D) (ci := 3) (v := .int (nI 0)) (ty := .int) (C := RX3) (T := TX3) (N := 16) hx hb hts hin3 tyX3 tyX3_ok nmX3 hown hK hP hD hS 0 rfl rfl 0 (by decide) kf44 (fun _ h9 => h9) rfl (by decide +kernel) rfl rfl (Nat.le_of_ble_eq_true rfl) dX3_value_14 (fun H locs hP hD hS => ?_)
  have hP : va_P D vwCl [(hm, .inr (3, [.int (nI 0), .int (nI nd), .ref q0, .ref q1, .int (nI mi), .int (nI ml), .ref q2, .ref q3, .ref q4, .ref q5, .ref q6, .ref q7, .ref q8, .ref q9, .int (nI sp), .int fa])), (q0, .inl (cI, 401, .inl fs)), (q1, .inl (cJ, 25664, .inr (.inl ft))), (q2, .inl (cI, 4, .inl fl)), (q3, .inl (cI, 8, .inl (fun j => nI (gS j)))), (q4, .inl (cI, 8, .inl (fun j => nI (gX j)))), (q5, .inl (cI, 8, .inl (fun j => nI (gT j)))), (q6, .inl (cI, 2, .inl (fun j => nI (gC j)))), (q7, .inl (cI, 32, .inl (fun j => nI (gO j)))), (q8, .inl (cI, 32, .inl fD)), (q9, .inl (cI, 2, .inl (fun j => nI (gE j))))] H := hP
  have hD : va_D A [(hm, .inr (3, [.int (nI 0), .int (nI nd), .ref q0, .ref q1, .int (nI mi), .int (nI ml), .ref q2, .ref q3, .ref q4, .ref q5, .ref q6, .ref q7, .ref q8, .ref q9, .int (nI sp), .int fa])), (q0, .inl (cI, 401, .inl fs)), (q1, .inl (cJ, 25664, .inr (.inl ft))), (q2, .inl (cI, 4, .inl fl)), (q3, .inl (cI, 8, .inl (fun j => nI (gS j)))), (q4, .inl (cI, 8, .inl (fun j => nI (gX j)))), (q5, .inl (cI, 8, .inl (fun j => nI (gT j)))), (q6, .inl (cI, 2, .inl (fun j => nI (gC j)))), (q7, .inl (cI, 32, .inl (fun j => nI (gO j)))), (q8, .inl (cI, 32, .inl fD)), (q9, .inl (cI, 2, .inl (fun j => nI (gE j))))] := hD
  refine lv_aload_n hx hb dX3_value_17 rfl (lv_at hl 0 rfl) ?_
  refine va_get (D := D) (ci := 3) (v := .int (nI 0)) (C := RX3) (T := TX3) (N := 16) hx hb hts hin3 hown hK hP 0 rfl rfl 0 (by decide) kf44 (fun _ h9 => h9) rfl dX3_value_18 ?_
  refine lv_if_le (tgt := 28) hx hb dX3_value_21 (by decide) (fun _ => ?_) (fun hc => absurd hc (by decide))
  refine lv_aload_n hx hb dX3_value_28 rfl (lv_at hl 0 rfl) ?_
  refine lv_iload_n hx hb dX3_value_29 rfl (lv_at hl 1 rfl) ?_
  refine lv_iload_n hx hb dX3_value_30 rfl (lv_at hl 2 rfl) ?_
  refine lv_aload_n hx hb dX3_value_31 rfl (lv_at hl 0 rfl) ?_
  refine rd_V (As := []) (rest := [.int av, .int (nI lit), .ref hm]) ⟨hx, hb, hml, hown, hts⟩ (c_X3_present l D cI cJ hm q0 q1 q2 q3 q4 q5 q6 q7 q8 q9 (nI 0) nd fs ft mi ml fl gS gX gT gC gO fD gE sp fa hmi hml9) (cwV 0 hts gX3_value_X3_present rfl rfl rfl (by decide +kernel) ⟨Nat.le_of_ble_eq_true rfl, Nat.le_of_ble_eq_true rfl⟩) (rd_pv (ci := 3) (q0 := 0) hK hP rfl rfl) rfl hl.1 rfl (Nat.le_of_ble_eq_true rfl) dX3_value_32 ⟨by show _ ≤ _; simp only [headSpec]; omega, by show _ ≤ _; simp only [headSpec]; omega⟩ ?_
  refine lv_iand hx hb dX3_value_35 ?_
  refine tp_i (show av &&& (nI (prN mi ml)) = nI k from hk) ?_
  refine rd_V (As := [.int (nI lit), .int (nI k)]) (rest := []) ⟨hx, hb, hml, hown, hts⟩ (c_X3_bit l D cI cJ hm q0 q1 q2 q3 q4 q5 q6 q7 q8 q9 (nI 0) nd fs ft mi ml fl gS gX gT gC gO fD gE sp fa lit k (by omega) hk2) (cwV 2 hts gX3_value_X3_bit rfl rfl rfl (by decide +kernel) ⟨Nat.le_of_ble_eq_true rfl, Nat.le_of_ble_eq_true rfl⟩) (rd_pv (ci := 3) (q0 := 0) hK hP rfl rfl) rfl hl.1 rfl (Nat.le_of_ble_eq_true rfl) dX3_value_36 ⟨by show _ ≤ _; simp only [headSpec]; omega, by show _ ≤ _; simp only [headSpec]; omega⟩ ?_
  exact wr_i (()) hx hb hr hlocks hP hD hS dX3_value_39 (rfl) (trivial)
set_option maxHeartbeats 4000000 in
set_option maxRecDepth 100000 in
/-- value: no such literal -/
theorem w_X3_valueB (x y : Int32) (hb0 : (x < 0 ∨ nI (2 * nd) ≤ x)) (sz : Nat) : Met l yX3_value wsX3_value { frames := 1, cells := 0, slots := 0, locals := 24 } (wr_P D [(cI, .int), (cJ, .long)] (mW hm q0 q1 q2 q3 q4 q5 q6 q7 q8 q9 cI cJ th nd fs ft mi ml fl gS gX gT gC gO fD gE sp fa) sz tp [.ref hm, .int x, .int y]) (wx (Su := Unit) D [(cI, .int), (cJ, .long)] (va_A (mW hm q0 q1 q2 q3 q4 q5 q6 q7 q8 q9 cI cJ th nd fs ft mi ml fl gS gX gT gC gO fD gE sp fa) sz) (fun _ => some (.int (nI 0))) (fun _ => True) (fun _ => mW hm q0 q1 q2 q3 q4 q5 q6 q7 q8 q9 cI cJ (nI 1) nd fs ft mi ml fl gS gX gT gC gO fD gE sp fa)) 0 0 (va_A (mW hm q0 q1 q2 q3 q4 q5 q6 q7 q8 q9 cI cJ th nd fs ft mi ml fl gS gX gT gC gO fD gE sp fa) sz) := by
  refine Met.ofW (cc := cX3_value) (maxL := 3) (ret := (some .int)) (by decide) rfl ?_
  intro p e s m args below meth c s₁ B hml hv
  obtain ⟨rfl, hsz, ⟨hP, hK, hD0⟩, hE⟩ := hv
  have hx := B.exec
  have hb := B.bytes
  have hr := B.returns
  have hts := atoms_spec (ws := wsX3_value) B.pre
  have hown : s.vm.findClass RX3 = some m.cls := findClass_of_methodNamed B.named
  have hlocks := B.notSynchronized
  subst hsz
  have hD := hD0.self (sz := s.heap.size)
  generalize hAe : va_A (mW hm q0 q1 q2 q3 q4 q5 q6 q7 q8 q9 cI cJ th nd fs ft mi ml fl gS gX gT gC gO fD gE sp fa) s.heap.size = A at hD hE ⊢
  have hA : ∀ q : Nat, s.heap.size ≤ q → A q := fun q h => by rw [← hAe]; exact Or.inr h
  have hS : va_S A s.heap s.heap [] := va_S.rf
  have hP : va_P D vwCl [(hm, .inr (3, [.int th, .int (nI nd), .ref q0, .ref q1, .int (nI mi), .int (nI ml), .ref q2, .ref q3, .ref q4, .ref q5, .ref q6, .ref q7, .ref q8, .ref q9, .int (nI sp), .int fa])), (q0, .inl (cI, 401, .inl fs)), (q1, .inl (cJ, 25664, .inr (.inl ft))), (q2, .inl (cI, 4, .inl fl)), (q3, .inl (cI, 8, .inl (fun j => nI (gS j)))), (q4, .inl (cI, 8, .inl (fun j => nI (gX j)))), (q5, .inl (cI, 8, .inl (fun j => nI (gT j)))), (q6, .inl (cI, 2, .inl (fun j => nI (gC j)))), (q7, .inl (cI, 32, .inl (fun j => nI (gO j)))), (q8, .inl (cI, 32, .inl fD)), (q9, .inl (cI, 2, .inl (fun j => nI (gE j))))] s.heap := hP
  have hD : va_D A [(hm, .inr (3, [.int th, .int (nI nd), .ref q0, .ref q1, .int (nI mi), .int (nI ml), .ref q2, .ref q3, .ref q4, .ref q5, .ref q6, .ref q7, .ref q8, .ref q9, .int (nI sp), .int fa])), (q0, .inl (cI, 401, .inl fs)), (q1, .inl (cJ, 25664, .inr (.inl ft))), (q2, .inl (cI, 4, .inl fl)), (q3, .inl (cI, 8, .inl (fun j => nI (gS j)))), (q4, .inl (cI, 8, .inl (fun j => nI (gX j)))), (q5, .inl (cI, 8, .inl (fun j => nI (gT j)))), (q6, .inl (cI, 2, .inl (fun j => nI (gC j)))), (q7, .inl (cI, 32, .inl (fun j => nI (gO j)))), (q8, .inl (cI, 32, .inl fD)), (q9, .inl (cI, 2, .inl (fun j => nI (gE j))))] := hD
  have hl := lv_entry ([.ref hm, .int x, .int y]) (n := 3) (Nat.le_of_ble_eq_true rfl)
  rw [lg_entry_eq]
  generalize (lg_sl ([.ref hm, .int x, .int y]) ++ List.replicate (3 - (lg_sl ([.ref hm, .int x, .int y])).length) Slot.unset).toArray = ls at hl ⊢
  have hl : lv_has ls 3 [(0, .ref hm), (1, .int x), (2, .int y)] := hl
  have hin3 : ∀ w ∈ wsX30, w ∈ wsX3_value := by decide +kernel
  have kf44 := hts (.fieldLink RX3 44 "SweepEqualModel" "thrown" "I") (by decide +kernel)
  refine lv_aload_n hx hb dX3_value_0 rfl (lv_at hl 0 rfl) ?_
  refine lv_aload_n hx hb dX3_value_1 rfl (lv_at hl 0 rfl) ?_
  refine lv_iload_n hx hb dX3_value_2 rfl (lv_at hl 1 rfl) ?_
  refine rd_V (As := [.int x]) (rest := [.ref hm]) ⟨hx, hb, hml, hown, hts⟩ (c_X3_isLiteral l D cI cJ hm q0 q1 q2 q3 q4 q5 q6 q7 q8 q9 th nd fs ft mi ml fl gS gX gT gC gO fD gE sp fa x) (cwV 1 hts gX3_value_X3_isLiteral rfl rfl rfl (by decide +kernel) ⟨Nat.le_of_ble_eq_true rfl, Nat.le_of_ble_eq_true rfl⟩) (rd_pv (ci := 3) (q0 := 0) hK hP rfl rfl) rfl hl.1 rfl (Nat.le_of_ble_eq_true rfl) dX3_value_3 ⟨by show _ ≤ _; simp only [headSpec]; omega, by show _ ≤ _; simp only [headSpec]; omega⟩ ?_
  refine tp_i (show zI (decide (¬ x < 0 ∧ ¬ nI (2 * nd) ≤ x)) = nI 0 from lit_f hb0) ?_
  refine lv_if_eq (tgt := 13) hx hb dX3_value_6 (by decide) (fun _ => ?_) (fun hc => absurd hc (by decide))
  refine lv_iconst (v := nI 1) hx hb dX3_value_13 (by decide) ?_
  refine va_put (D := D) (ci := 3) (v := .int (nI 1)) (ty := .int) (C := RX3) (T := TX3) (N := 16) hx hb hts hin3 tyX3 tyX3_ok nmX3 hown hK hP hD hS 0 rfl rfl 0 (by decide) kf44 (fun _ h9 => h9) rfl (by decide +kernel) rfl rfl (Nat.le_of_ble_eq_true rfl) dX3_value_14 (fun H locs hP hD hS => ?_)
  have hP : va_P D vwCl [(hm, .inr (3, [.int (nI 1), .int (nI nd), .ref q0, .ref q1, .int (nI mi), .int (nI ml), .ref q2, .ref q3, .ref q4, .ref q5, .ref q6, .ref q7, .ref q8, .ref q9, .int (nI sp), .int fa])), (q0, .inl (cI, 401, .inl fs)), (q1, .inl (cJ, 25664, .inr (.inl ft))), (q2, .inl (cI, 4, .inl fl)), (q3, .inl (cI, 8, .inl (fun j => nI (gS j)))), (q4, .inl (cI, 8, .inl (fun j => nI (gX j)))), (q5, .inl (cI, 8, .inl (fun j => nI (gT j)))), (q6, .inl (cI, 2, .inl (fun j => nI (gC j)))), (q7, .inl (cI, 32, .inl (fun j => nI (gO j)))), (q8, .inl (cI, 32, .inl fD)), (q9, .inl (cI, 2, .inl (fun j => nI (gE j))))] H := hP
  have hD : va_D A [(hm, .inr (3, [.int (nI 1), .int (nI nd), .ref q0, .ref q1, .int (nI mi), .int (nI ml), .ref q2, .ref q3, .ref q4, .ref q5, .ref q6, .ref q7, .ref q8, .ref q9, .int (nI sp), .int fa])), (q0, .inl (cI, 401, .inl fs)), (q1, .inl (cJ, 25664, .inr (.inl ft))), (q2, .inl (cI, 4, .inl fl)), (q3, .inl (cI, 8, .inl (fun j => nI (gS j)))), (q4, .inl (cI, 8, .inl (fun j => nI (gX j)))), (q5, .inl (cI, 8, .inl (fun j => nI (gT j)))), (q6, .inl (cI, 2, .inl (fun j => nI (gC j)))), (q7, .inl (cI, 32, .inl (fun j => nI (gO j)))), (q8, .inl (cI, 32, .inl fD)), (q9, .inl (cI, 2, .inl (fun j => nI (gE j))))] := hD
  refine lv_aload_n hx hb dX3_value_17 rfl (lv_at hl 0 rfl) ?_
  refine va_get (D := D) (ci := 3) (v := .int (nI 1)) (C := RX3) (T := TX3) (N := 16) hx hb hts hin3 hown hK hP 0 rfl rfl 0 (by decide) kf44 (fun _ h9 => h9) rfl dX3_value_18 ?_
  refine lv_if_le (tgt := 28) hx hb dX3_value_21 (by decide) (fun hc => absurd hc (by decide)) (fun _ => ?_)
  refine lv_iconst (v := nI 0) hx hb dX3_value_24 (by decide) ?_
  refine lv_goto (tgt := 39) hx hb dX3_value_25 (by decide) ?_
  exact wr_i (()) hx hb hr hlocks hP hD hS dX3_value_39 (rfl) (trivial)
end MW3
