/-! Design: contracts. -/
section WD
variable (l : Launch) (D : va_G) (cI cJ : ClassId) (tp : Nat) (hd ou nx sh oc sc sr ss : Nat) (gO gN : Nat → Nat) (fS : Nat → Int32)
set_option maxHeartbeats 4000000 in
set_option maxRecDepth 100000 in
/-- no outputs, starts 0 -/
theorem w_X0_forget  (sz : Nat) : Met l yX0_forget wsX0_forget { frames := 0, cells := 0, slots := 0, locals := 0 } (wr_P D [(cI, .int), (cJ, .long)] (dW hd ou nx sh cI oc sc sr ss gO gN fS) sz tp [.ref hd]) (wx (Su := Unit) D [(cI, .int), (cJ, .long)] (va_A (dW hd ou nx sh cI oc sc sr ss gO gN fS) sz) (fun _ => none) (fun _ => True) (fun _ => dW hd ou nx sh cI 0 sc 0 ss gO gN fS)) 0 0 (va_A (dW hd ou nx sh cI oc sc sr ss gO gN fS) sz) := by
  refine Met.ofW (cc := cX0_forget) (maxL := 1) (ret := none) (by decide) rfl ?_
  intro p e s m args below meth c s₁ B hml hv
  obtain ⟨rfl, hsz, ⟨hP, hK, hD0⟩, hE⟩ := hv
  have hx := B.exec
  have hb := B.bytes
  have hr := B.returns
  have hts := atoms_spec (ws := wsX0_forget) B.pre
  have hown : s.vm.findClass RX0 = some m.cls := findClass_of_methodNamed B.named
  have hlocks := B.notSynchronized
  subst hsz
  have hD := hD0.self (sz := s.heap.size)
  generalize hAe : va_A (dW hd ou nx sh cI oc sc sr ss gO gN fS) s.heap.size = A at hD hE ⊢
  have hA : ∀ q : Nat, s.heap.size ≤ q → A q := fun q h => by rw [← hAe]; exact Or.inr h
  have hS : va_S A s.heap s.heap [] := va_S.rf
  have hP : va_P D vwCl [(hd, .inr (0, [.ref ou, .ref nx, .ref sh, .int (nI oc), .int (nI sc), .int (nI sr), .int (nI ss)])), (ou, .inl (cI, 16, .inl (fun j => nI (gO j)))), (nx, .inl (cI, 4, .inl (fun j => nI (gN j)))), (sh, .inl (cI, 16, .inl fS))] s.heap := hP
  have hD : va_D A [(hd, .inr (0, [.ref ou, .ref nx, .ref sh, .int (nI oc), .int (nI sc), .int (nI sr), .int (nI ss)])), (ou, .inl (cI, 16, .inl (fun j => nI (gO j)))), (nx, .inl (cI, 4, .inl (fun j => nI (gN j)))), (sh, .inl (cI, 16, .inl fS))] := hD
  have hl := lv_entry ([.ref hd]) (n := 1) (Nat.le_of_ble_eq_true rfl)
  rw [lg_entry_eq]
  generalize (lg_sl ([.ref hd]) ++ List.replicate (1 - (lg_sl ([.ref hd])).length) Slot.unset).toArray = ls at hl ⊢
  have hl : lv_has ls 1 [(0, .ref hd)] := hl
  have hin0 : ∀ w ∈ wsX00, w ∈ wsX0_forget := by decide +kernel
  have kf21 := hts (.fieldLink RX0 21 "SweepEqual$Design" "outputCount" "I") (by decide +kernel)
  have kf25 := hts (.fieldLink RX0 25 "SweepEqual$Design" "starts" "I") (by decide +kernel)
  refine lv_aload_n hx hb dX0_forget_0 rfl (lv_at hl 0 rfl) ?_
  refine lv_iconst (v := nI 0) hx hb dX0_forget_1 (by decide) ?_
  refine va_put (D := D) (ci := 0) (v := .int (nI 0)) (ty := .int) (C := RX0) (T := TX0) (N := 7) hx hb hts hin0 tyX0 tyX0_ok nmX0 hown hK hP hD hS 0 rfl rfl 3 (by decide) kf21 (fun _ h9 => h9) rfl (by decide +kernel) rfl rfl (Nat.le_of_ble_eq_true rfl) dX0_forget_2 (fun H locs hP hD hS => ?_)
  have hP : va_P D vwCl [(hd, .inr (0, [.ref ou, .ref nx, .ref sh, .int (nI 0), .int (nI sc), .int (nI sr), .int (nI ss)])), (ou, .inl (cI, 16, .inl (fun j => nI (gO j)))), (nx, .inl (cI, 4, .inl (fun j => nI (gN j)))), (sh, .inl (cI, 16, .inl fS))] H := hP
  have hD : va_D A [(hd, .inr (0, [.ref ou, .ref nx, .ref sh, .int (nI 0), .int (nI sc), .int (nI sr), .int (nI ss)])), (ou, .inl (cI, 16, .inl (fun j => nI (gO j)))), (nx, .inl (cI, 4, .inl (fun j => nI (gN j)))), (sh, .inl (cI, 16, .inl fS))] := hD
  refine lv_aload_n hx hb dX0_forget_5 rfl (lv_at hl 0 rfl) ?_
  refine lv_iconst (v := nI 0) hx hb dX0_forget_6 (by decide) ?_
  refine va_put (D := D) (ci := 0) (v := .int (nI 0)) (ty := .int) (C := RX0) (T := TX0) (N := 7) hx hb hts hin0 tyX0 tyX0_ok nmX0 hown hK hP hD hS 0 rfl rfl 5 (by decide) kf25 (fun _ h9 => h9) rfl (by decide +kernel) rfl rfl (Nat.le_of_ble_eq_true rfl) dX0_forget_7 (fun H locs hP hD hS => ?_)
  have hP : va_P D vwCl [(hd, .inr (0, [.ref ou, .ref nx, .ref sh, .int (nI 0), .int (nI sc), .int (nI 0), .int (nI ss)])), (ou, .inl (cI, 16, .inl (fun j => nI (gO j)))), (nx, .inl (cI, 4, .inl (fun j => nI (gN j)))), (sh, .inl (cI, 16, .inl fS))] H := hP
  have hD : va_D A [(hd, .inr (0, [.ref ou, .ref nx, .ref sh, .int (nI 0), .int (nI sc), .int (nI 0), .int (nI ss)])), (ou, .inl (cI, 16, .inl (fun j => nI (gO j)))), (nx, .inl (cI, 4, .inl (fun j => nI (gN j)))), (sh, .inl (cI, 16, .inl fS))] := hD
  exact wr_v (()) hx hb hr hlocks hP hD hS dX0_forget_10 (rfl) (trivial)
set_option maxHeartbeats 4000000 in
set_option maxRecDepth 100000 in
/-- the states are the starts, nothing shown -/
theorem w_X0_backToStarts  (sz : Nat) : Met l yX0_backToStarts wsX0_backToStarts { frames := 0, cells := 0, slots := 0, locals := 0 } (wr_P D [(cI, .int), (cJ, .long)] (dW hd ou nx sh cI oc sc sr ss gO gN fS) sz tp [.ref hd]) (wx (Su := Unit) D [(cI, .int), (cJ, .long)] (va_A (dW hd ou nx sh cI oc sc sr ss gO gN fS) sz) (fun _ => none) (fun _ => True) (fun _ => dW hd ou nx sh cI oc 0 sr sr gO gN fS)) 0 0 (va_A (dW hd ou nx sh cI oc sc sr ss gO gN fS) sz) := by
  refine Met.ofW (cc := cX0_backToStarts) (maxL := 1) (ret := none) (by decide) rfl ?_
  intro p e s m args below meth c s₁ B hml hv
  obtain ⟨rfl, hsz, ⟨hP, hK, hD0⟩, hE⟩ := hv
  have hx := B.exec
  have hb := B.bytes
  have hr := B.returns
  have hts := atoms_spec (ws := wsX0_backToStarts) B.pre
  have hown : s.vm.findClass RX0 = some m.cls := findClass_of_methodNamed B.named
  have hlocks := B.notSynchronized
  subst hsz
  have hD := hD0.self (sz := s.heap.size)
  generalize hAe : va_A (dW hd ou nx sh cI oc sc sr ss gO gN fS) s.heap.size = A at hD hE ⊢
  have hA : ∀ q : Nat, s.heap.size ≤ q → A q := fun q h => by rw [← hAe]; exact Or.inr h
  have hS : va_S A s.heap s.heap [] := va_S.rf
  have hP : va_P D vwCl [(hd, .inr (0, [.ref ou, .ref nx, .ref sh, .int (nI oc), .int (nI sc), .int (nI sr), .int (nI ss)])), (ou, .inl (cI, 16, .inl (fun j => nI (gO j)))), (nx, .inl (cI, 4, .inl (fun j => nI (gN j)))), (sh, .inl (cI, 16, .inl fS))] s.heap := hP
  have hD : va_D A [(hd, .inr (0, [.ref ou, .ref nx, .ref sh, .int (nI oc), .int (nI sc), .int (nI sr), .int (nI ss)])), (ou, .inl (cI, 16, .inl (fun j => nI (gO j)))), (nx, .inl (cI, 4, .inl (fun j => nI (gN j)))), (sh, .inl (cI, 16, .inl fS))] := hD
  have hl := lv_entry ([.ref hd]) (n := 1) (Nat.le_of_ble_eq_true rfl)
  rw [lg_entry_eq]
  generalize (lg_sl ([.ref hd]) ++ List.replicate (1 - (lg_sl ([.ref hd])).length) Slot.unset).toArray = ls at hl ⊢
  have hl : lv_has ls 1 [(0, .ref hd)] := hl
  have hin0 : ∀ w ∈ wsX00, w ∈ wsX0_backToStarts := by decide +kernel
  have kf25 := hts (.fieldLink RX0 25 "SweepEqual$Design" "starts" "I") (by decide +kernel)
  have kf28 := hts (.fieldLink RX0 28 "SweepEqual$Design" "states" "I") (by decide +kernel)
  have kf31 := hts (.fieldLink RX0 31 "SweepEqual$Design" "shownCount" "I") (by decide +kernel)
  refine lv_aload_n hx hb dX0_backToStarts_0 rfl (lv_at hl 0 rfl) ?_
  refine lv_aload_n hx hb dX0_backToStarts_1 rfl (lv_at hl 0 rfl) ?_
  refine va_get (D := D) (ci := 0) (v := .int (nI sr)) (C := RX0) (T := TX0) (N := 7) hx hb hts hin0 hown hK hP 0 rfl rfl 5 (by decide) kf25 (fun _ h9 => h9) rfl dX0_backToStarts_2 ?_
  refine va_put (D := D) (ci := 0) (v := .int (nI sr)) (ty := .int) (C := RX0) (T := TX0) (N := 7) hx hb hts hin0 tyX0 tyX0_ok nmX0 hown hK hP hD hS 0 rfl rfl 6 (by decide) kf28 (fun _ h9 => h9) rfl (by decide +kernel) rfl rfl (Nat.le_of_ble_eq_true rfl) dX0_backToStarts_5 (fun H locs hP hD hS => ?_)
  have hP : va_P D vwCl [(hd, .inr (0, [.ref ou, .ref nx, .ref sh, .int (nI oc), .int (nI sc), .int (nI sr), .int (nI sr)])), (ou, .inl (cI, 16, .inl (fun j => nI (gO j)))), (nx, .inl (cI, 4, .inl (fun j => nI (gN j)))), (sh, .inl (cI, 16, .inl fS))] H := hP
  have hD : va_D A [(hd, .inr (0, [.ref ou, .ref nx, .ref sh, .int (nI oc), .int (nI sc), .int (nI sr), .int (nI sr)])), (ou, .inl (cI, 16, .inl (fun j => nI (gO j)))), (nx, .inl (cI, 4, .inl (fun j => nI (gN j)))), (sh, .inl (cI, 16, .inl fS))] := hD
  refine lv_aload_n hx hb dX0_backToStarts_8 rfl (lv_at hl 0 rfl) ?_
  refine lv_iconst (v := nI 0) hx hb dX0_backToStarts_9 (by decide) ?_
  refine va_put (D := D) (ci := 0) (v := .int (nI 0)) (ty := .int) (C := RX0) (T := TX0) (N := 7) hx hb hts hin0 tyX0 tyX0_ok nmX0 hown hK hP hD hS 0 rfl rfl 4 (by decide) kf31 (fun _ h9 => h9) rfl (by decide +kernel) rfl rfl (Nat.le_of_ble_eq_true rfl) dX0_backToStarts_10 (fun H locs hP hD hS => ?_)
  have hP : va_P D vwCl [(hd, .inr (0, [.ref ou, .ref nx, .ref sh, .int (nI oc), .int (nI 0), .int (nI sr), .int (nI sr)])), (ou, .inl (cI, 16, .inl (fun j => nI (gO j)))), (nx, .inl (cI, 4, .inl (fun j => nI (gN j)))), (sh, .inl (cI, 16, .inl fS))] H := hP
  have hD : va_D A [(hd, .inr (0, [.ref ou, .ref nx, .ref sh, .int (nI oc), .int (nI 0), .int (nI sr), .int (nI sr)])), (ou, .inl (cI, 16, .inl (fun j => nI (gO j)))), (nx, .inl (cI, 4, .inl (fun j => nI (gN j)))), (sh, .inl (cI, 16, .inl fS))] := hD
  exact wr_v (()) hx hb hr hlocks hP hD hS dX0_backToStarts_13 (rfl) (trivial)
set_option maxHeartbeats 4000000 in
set_option maxRecDepth 100000 in
/-- one output more -/
theorem w_X0_addOutput (lit : Nat) (h1 : oc < 16) (sz : Nat) : Met l yX0_addOutput wsX0_addOutput { frames := 0, cells := 0, slots := 0, locals := 0 } (wr_P D [(cI, .int), (cJ, .long)] (dW hd ou nx sh cI oc sc sr ss gO gN fS) sz tp [.ref hd, .int (nI lit)]) (wx (Su := Unit) D [(cI, .int), (cJ, .long)] (va_A (dW hd ou nx sh cI oc sc sr ss gO gN fS) sz) (fun _ => some (.int (nI oc))) (fun _ => True) (fun _ => dW hd ou nx sh cI (oc + 1) sc sr ss (va_up gO oc lit) gN fS)) 0 0 (va_A (dW hd ou nx sh cI oc sc sr ss gO gN fS) sz) := by
  refine Met.ofW (cc := cX0_addOutput) (maxL := 2) (ret := (some .int)) (by decide) rfl ?_
  intro p e s m args below meth c s₁ B hml hv
  obtain ⟨rfl, hsz, ⟨hP, hK, hD0⟩, hE⟩ := hv
  have hx := B.exec
  have hb := B.bytes
  have hr := B.returns
  have hts := atoms_spec (ws := wsX0_addOutput) B.pre
  have hown : s.vm.findClass RX0 = some m.cls := findClass_of_methodNamed B.named
  have hlocks := B.notSynchronized
  subst hsz
  have hD := hD0.self (sz := s.heap.size)
  generalize hAe : va_A (dW hd ou nx sh cI oc sc sr ss gO gN fS) s.heap.size = A at hD hE ⊢
  have hA : ∀ q : Nat, s.heap.size ≤ q → A q := fun q h => by rw [← hAe]; exact Or.inr h
  have hS : va_S A s.heap s.heap [] := va_S.rf
  have hP : va_P D vwCl [(hd, .inr (0, [.ref ou, .ref nx, .ref sh, .int (nI oc), .int (nI sc), .int (nI sr), .int (nI ss)])), (ou, .inl (cI, 16, .inl (fun j => nI (gO j)))), (nx, .inl (cI, 4, .inl (fun j => nI (gN j)))), (sh, .inl (cI, 16, .inl fS))] s.heap := hP
  have hD : va_D A [(hd, .inr (0, [.ref ou, .ref nx, .ref sh, .int (nI oc), .int (nI sc), .int (nI sr), .int (nI ss)])), (ou, .inl (cI, 16, .inl (fun j => nI (gO j)))), (nx, .inl (cI, 4, .inl (fun j => nI (gN j)))), (sh, .inl (cI, 16, .inl fS))] := hD
  have hl := lv_entry ([.ref hd, .int (nI lit)]) (n := 2) (Nat.le_of_ble_eq_true rfl)
  rw [lg_entry_eq]
  generalize (lg_sl ([.ref hd, .int (nI lit)]) ++ List.replicate (2 - (lg_sl ([.ref hd, .int (nI lit)])).length) Slot.unset).toArray = ls at hl ⊢
  have hl : lv_has ls 2 [(0, .ref hd), (1, .int (nI lit))] := hl
  have hin0 : ∀ w ∈ wsX00, w ∈ wsX0_addOutput := by decide +kernel
  have kf9 := hts (.fieldLink RX0 9 "SweepEqual$Design" "outputs" "[I") (by decide +kernel)
  have kf21 := hts (.fieldLink RX0 21 "SweepEqual$Design" "outputCount" "I") (by decide +kernel)
  refine lv_aload_n hx hb dX0_addOutput_0 rfl (lv_at hl 0 rfl) ?_
  refine va_get (D := D) (ci := 0) (v := .ref ou) (C := RX0) (T := TX0) (N := 7) hx hb hts hin0 hown hK hP 0 rfl rfl 0 (by decide) kf9 (fun _ h9 => h9) rfl dX0_addOutput_1 ?_
  refine lv_aload_n hx hb dX0_addOutput_4 rfl (lv_at hl 0 rfl) ?_
  refine va_get (D := D) (ci := 0) (v := .int (nI oc)) (C := RX0) (T := TX0) (N := 7) hx hb hts hin0 hown hK hP 0 rfl rfl 3 (by decide) kf21 (fun _ h9 => h9) rfl dX0_addOutput_5 ?_
  refine lv_iload_n hx hb dX0_addOutput_8 rfl (lv_at hl 1 rfl) ?_
  refine va_iast hx hb hK hP hD hS 1 0 rfl rfl (vp_in_nI (by omega) (by omega)) dX0_addOutput_9 (fun H locs hP hD hS => ?_)
  have hP : va_P D vwCl [(hd, .inr (0, [.ref ou, .ref nx, .ref sh, .int (nI oc), .int (nI sc), .int (nI sr), .int (nI ss)])), (ou, .inl (cI, 16, .inl (upd (fun j => nI (gO j)) (nI oc).toNatClampNeg (nI lit)))), (nx, .inl (cI, 4, .inl (fun j => nI (gN j)))), (sh, .inl (cI, 16, .inl fS))] H := hP
  have hD : va_D A [(hd, .inr (0, [.ref ou, .ref nx, .ref sh, .int (nI oc), .int (nI sc), .int (nI sr), .int (nI ss)])), (ou, .inl (cI, 16, .inl (upd (fun j => nI (gO j)) (nI oc).toNatClampNeg (nI lit)))), (nx, .inl (cI, 4, .inl (fun j => nI (gN j)))), (sh, .inl (cI, 16, .inl fS))] := hD
  rw [show upd (fun j => nI (gO j)) (nI oc).toNatClampNeg (nI lit) = fun j => nI ((va_up gO oc lit) j) from upN _ (by omega)] at hP hD
  refine lv_aload_n hx hb dX0_addOutput_10 rfl (lv_at hl 0 rfl) ?_
  refine lv_dup hx hb dX0_addOutput_11 rfl ?_
  refine va_get (D := D) (ci := 0) (v := .int (nI oc)) (C := RX0) (T := TX0) (N := 7) hx hb hts hin0 hown hK hP 0 rfl rfl 3 (by decide) kf21 (fun _ h9 => h9) rfl dX0_addOutput_12 ?_
  refine lv_iconst (v := nI 1) hx hb dX0_addOutput_15 (by decide) ?_
  refine lv_iadd hx hb dX0_addOutput_16 ?_
  refine tp_i (show (nI oc) + (nI 1) = nI (oc + 1) from nI_add _ _) ?_
  refine va_put (D := D) (ci := 0) (v := .int (nI (oc + 1))) (ty := .int) (C := RX0) (T := TX0) (N := 7) hx hb hts hin0 tyX0 tyX0_ok nmX0 hown hK hP hD hS 0 rfl rfl 3 (by decide) kf21 (fun _ h9 => h9) rfl (by decide +kernel) rfl rfl (Nat.le_of_ble_eq_true rfl) dX0_addOutput_17 (fun H locs hP hD hS => ?_)
  have hP : va_P D vwCl [(hd, .inr (0, [.ref ou, .ref nx, .ref sh, .int (nI (oc + 1)), .int (nI sc), .int (nI sr), .int (nI ss)])), (ou, .inl (cI, 16, .inl (fun j => nI ((va_up gO oc lit) j)))), (nx, .inl (cI, 4, .inl (fun j => nI (gN j)))), (sh, .inl (cI, 16, .inl fS))] H := hP
  have hD : va_D A [(hd, .inr (0, [.ref ou, .ref nx, .ref sh, .int (nI (oc + 1)), .int (nI sc), .int (nI sr), .int (nI ss)])), (ou, .inl (cI, 16, .inl (fun j => nI ((va_up gO oc lit) j)))), (nx, .inl (cI, 4, .inl (fun j => nI (gN j)))), (sh, .inl (cI, 16, .inl fS))] := hD
  refine lv_aload_n hx hb dX0_addOutput_20 rfl (lv_at hl 0 rfl) ?_
  refine va_get (D := D) (ci := 0) (v := .int (nI (oc + 1))) (C := RX0) (T := TX0) (N := 7) hx hb hts hin0 hown hK hP 0 rfl rfl 3 (by decide) kf21 (fun _ h9 => h9) rfl dX0_addOutput_21 ?_
  refine lv_iconst (v := nI 1) hx hb dX0_addOutput_24 (by decide) ?_
  refine lv_isub hx hb dX0_addOutput_25 ?_
  refine tp_i (show (nI (oc + 1)) - (nI 1) = nI (oc + 1 - 1) from pk_sub (by omega)) ?_
  exact wr_i (()) hx hb hr hlocks hP hD hS dX0_addOutput_26 (by rw [show oc + 1 - 1 = oc by omega]) (trivial)
set_option maxHeartbeats 4000000 in
set_option maxRecDepth 100000 in
/-- a latch: its start, its next -/
theorem w_X0_addLatch (lt st lit : Nat) (h1 : lt < 4) (h2 : st < 2) (sz : Nat) : Met l yX0_addLatch wsX0_addLatch { frames := 0, cells := 0, slots := 0, locals := 0 } (wr_P D [(cI, .int), (cJ, .long)] (dW hd ou nx sh cI oc sc sr ss gO gN fS) sz tp [.ref hd, .int (nI lt), .int (nI st), .int (nI lit)]) (wx (Su := Unit) D [(cI, .int), (cJ, .long)] (va_A (dW hd ou nx sh cI oc sc sr ss gO gN fS) sz) (fun _ => none) (fun _ => True) (fun _ => dW hd ou nx sh cI oc sc (sr ||| st * 2 ^ lt) ss gO (va_up gN lt lit) fS)) 0 0 (va_A (dW hd ou nx sh cI oc sc sr ss gO gN fS) sz) := by
  refine Met.ofW (cc := cX0_addLatch) (maxL := 4) (ret := none) (by decide) rfl ?_
  intro p e s m args below meth c s₁ B hml hv
  obtain ⟨rfl, hsz, ⟨hP, hK, hD0⟩, hE⟩ := hv
  have hx := B.exec
  have hb := B.bytes
  have hr := B.returns
  have hts := atoms_spec (ws := wsX0_addLatch) B.pre
  have hown : s.vm.findClass RX0 = some m.cls := findClass_of_methodNamed B.named
  have hlocks := B.notSynchronized
  subst hsz
  have hD := hD0.self (sz := s.heap.size)
  generalize hAe : va_A (dW hd ou nx sh cI oc sc sr ss gO gN fS) s.heap.size = A at hD hE ⊢
  have hA : ∀ q : Nat, s.heap.size ≤ q → A q := fun q h => by rw [← hAe]; exact Or.inr h
  have hS : va_S A s.heap s.heap [] := va_S.rf
  have hP : va_P D vwCl [(hd, .inr (0, [.ref ou, .ref nx, .ref sh, .int (nI oc), .int (nI sc), .int (nI sr), .int (nI ss)])), (ou, .inl (cI, 16, .inl (fun j => nI (gO j)))), (nx, .inl (cI, 4, .inl (fun j => nI (gN j)))), (sh, .inl (cI, 16, .inl fS))] s.heap := hP
  have hD : va_D A [(hd, .inr (0, [.ref ou, .ref nx, .ref sh, .int (nI oc), .int (nI sc), .int (nI sr), .int (nI ss)])), (ou, .inl (cI, 16, .inl (fun j => nI (gO j)))), (nx, .inl (cI, 4, .inl (fun j => nI (gN j)))), (sh, .inl (cI, 16, .inl fS))] := hD
  have hl := lv_entry ([.ref hd, .int (nI lt), .int (nI st), .int (nI lit)]) (n := 4) (Nat.le_of_ble_eq_true rfl)
  rw [lg_entry_eq]
  generalize (lg_sl ([.ref hd, .int (nI lt), .int (nI st), .int (nI lit)]) ++ List.replicate (4 - (lg_sl ([.ref hd, .int (nI lt), .int (nI st), .int (nI lit)])).length) Slot.unset).toArray = ls at hl ⊢
  have hl : lv_has ls 4 [(0, .ref hd), (1, .int (nI lt)), (2, .int (nI st)), (3, .int (nI lit))] := hl
  have hin0 : ∀ w ∈ wsX00, w ∈ wsX0_addLatch := by decide +kernel
  have kf25 := hts (.fieldLink RX0 25 "SweepEqual$Design" "starts" "I") (by decide +kernel)
  have kf15 := hts (.fieldLink RX0 15 "SweepEqual$Design" "nexts" "[I") (by decide +kernel)
  have hp : 2 ^ lt ≤ 2 ^ 3 := Nat.pow_le_pow_right (by omega) (by omega)
  have hp2 : st * 2 ^ lt ≤ 1 * 2 ^ 3 := Nat.mul_le_mul (by omega) hp
  refine lv_aload_n hx hb dX0_addLatch_0 rfl (lv_at hl 0 rfl) ?_
  refine lv_dup hx hb dX0_addLatch_1 rfl ?_
  refine va_get (D := D) (ci := 0) (v := .int (nI sr)) (C := RX0) (T := TX0) (N := 7) hx hb hts hin0 hown hK hP 0 rfl rfl 5 (by decide) kf25 (fun _ h9 => h9) rfl dX0_addLatch_2 ?_
  refine lv_iload_n hx hb dX0_addLatch_5 rfl (lv_at hl 2 rfl) ?_
  refine lv_iload_n hx hb dX0_addLatch_6 rfl (lv_at hl 1 rfl) ?_
  refine lv_ishl hx hb dX0_addLatch_7 ?_
  refine tp_i (show (nI st) <<< ((nI lt) &&& 31) = nI (st * 2 ^ lt) from n_shl (by omega) (by omega)) ?_
  refine lv_ior hx hb dX0_addLatch_8 ?_
  refine tp_i (show (nI sr) ||| (nI (st * 2 ^ lt)) = nI (sr ||| st * 2 ^ lt) from n_or _ _) ?_
  refine va_put (D := D) (ci := 0) (v := .int (nI (sr ||| st * 2 ^ lt))) (ty := .int) (C := RX0) (T := TX0) (N := 7) hx hb hts hin0 tyX0 tyX0_ok nmX0 hown hK hP hD hS 0 rfl rfl 5 (by decide) kf25 (fun _ h9 => h9) rfl (by decide +kernel) rfl rfl (Nat.le_of_ble_eq_true rfl) dX0_addLatch_9 (fun H locs hP hD hS => ?_)
  have hP : va_P D vwCl [(hd, .inr (0, [.ref ou, .ref nx, .ref sh, .int (nI oc), .int (nI sc), .int (nI (sr ||| st * 2 ^ lt)), .int (nI ss)])), (ou, .inl (cI, 16, .inl (fun j => nI (gO j)))), (nx, .inl (cI, 4, .inl (fun j => nI (gN j)))), (sh, .inl (cI, 16, .inl fS))] H := hP
  have hD : va_D A [(hd, .inr (0, [.ref ou, .ref nx, .ref sh, .int (nI oc), .int (nI sc), .int (nI (sr ||| st * 2 ^ lt)), .int (nI ss)])), (ou, .inl (cI, 16, .inl (fun j => nI (gO j)))), (nx, .inl (cI, 4, .inl (fun j => nI (gN j)))), (sh, .inl (cI, 16, .inl fS))] := hD
  refine lv_aload_n hx hb dX0_addLatch_12 rfl (lv_at hl 0 rfl) ?_
  refine va_get (D := D) (ci := 0) (v := .ref nx) (C := RX0) (T := TX0) (N := 7) hx hb hts hin0 hown hK hP 0 rfl rfl 1 (by decide) kf15 (fun _ h9 => h9) rfl dX0_addLatch_13 ?_
  refine lv_iload_n hx hb dX0_addLatch_16 rfl (lv_at hl 1 rfl) ?_
  refine lv_iload_n hx hb dX0_addLatch_17 rfl (lv_at hl 3 rfl) ?_
  refine va_iast hx hb hK hP hD hS 2 0 rfl rfl (vp_in_nI (by omega) (by omega)) dX0_addLatch_18 (fun H locs hP hD hS => ?_)
  have hP : va_P D vwCl [(hd, .inr (0, [.ref ou, .ref nx, .ref sh, .int (nI oc), .int (nI sc), .int (nI (sr ||| st * 2 ^ lt)), .int (nI ss)])), (ou, .inl (cI, 16, .inl (fun j => nI (gO j)))), (nx, .inl (cI, 4, .inl (upd (fun j => nI (gN j)) (nI lt).toNatClampNeg (nI lit)))), (sh, .inl (cI, 16, .inl fS))] H := hP
  have hD : va_D A [(hd, .inr (0, [.ref ou, .ref nx, .ref sh, .int (nI oc), .int (nI sc), .int (nI (sr ||| st * 2 ^ lt)), .int (nI ss)])), (ou, .inl (cI, 16, .inl (fun j => nI (gO j)))), (nx, .inl (cI, 4, .inl (upd (fun j => nI (gN j)) (nI lt).toNatClampNeg (nI lit)))), (sh, .inl (cI, 16, .inl fS))] := hD
  rw [show upd (fun j => nI (gN j)) (nI lt).toNatClampNeg (nI lit) = fun j => nI ((va_up gN lt lit) j) from upN _ (by omega)] at hP hD
  exact wr_v (()) hx hb hr hlocks hP hD hS dX0_addLatch_19 (rfl) (trivial)
end WD
