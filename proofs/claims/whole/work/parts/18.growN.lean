/-! Nodes: what writes. -/
section WN
variable (l : Launch) (D : va_G) (cI cJ : ClassId) (tp : Nat) (hn ow fi ma ro cnt len : Nat) (fo ff : Nat → Int32) (fk fr : Nat → Int64)
set_option maxHeartbeats 4000000 in
set_option maxRecDepth 100000 in
/-- node 0 alone -/
theorem w_X1_forget  (sz : Nat) : Met l yX1_forget wsX1_forget { frames := 0, cells := 0, slots := 0, locals := 0 } (wr_P D [(cI, .int), (cJ, .long)] (nW hn ow fi ma ro cI cJ cnt len fo ff fk fr) sz tp [.ref hn]) (wx (Su := Unit) D [(cI, .int), (cJ, .long)] (va_A (nW hn ow fi ma ro cI cJ cnt len fo ff fk fr) sz) (fun _ => none) (fun _ => True) (fun _ => nW hn ow fi ma ro cI cJ 1 len fo ff fk fr)) 0 0 (va_A (nW hn ow fi ma ro cI cJ cnt len fo ff fk fr) sz) := by
  refine Met.ofW (cc := cX1_forget) (maxL := 1) (ret := none) (by decide) rfl ?_
  intro p e s m args below meth c s₁ B hml hv
  obtain ⟨rfl, hsz, ⟨hP, hK, hD0⟩, hE⟩ := hv
  have hx := B.exec
  have hb := B.bytes
  have hr := B.returns
  have hts := atoms_spec (ws := wsX1_forget) B.pre
  have hown : s.vm.findClass RX1 = some m.cls := findClass_of_methodNamed B.named
  have hlocks := B.notSynchronized
  subst hsz
  have hD := hD0.self (sz := s.heap.size)
  generalize hAe : va_A (nW hn ow fi ma ro cI cJ cnt len fo ff fk fr) s.heap.size = A at hD hE ⊢
  have hA : ∀ q : Nat, s.heap.size ≤ q → A q := fun q h => by rw [← hAe]; exact Or.inr h
  have hS : va_S A s.heap s.heap [] := va_S.rf
  have hP : va_P D vwCl [(hn, .inr (1, [.int (nI cnt), .ref ow, .ref fi, .ref ma, .ref ro])), (ow, .inl (cI, 400, .inl fo)), (fi, .inl (cI, 400, .inl ff)), (ma, .inl (cJ, 400, .inr (.inl fk))), (ro, .inl (cJ, len, .inr (.inl fr)))] s.heap := hP
  have hD : va_D A [(hn, .inr (1, [.int (nI cnt), .ref ow, .ref fi, .ref ma, .ref ro])), (ow, .inl (cI, 400, .inl fo)), (fi, .inl (cI, 400, .inl ff)), (ma, .inl (cJ, 400, .inr (.inl fk))), (ro, .inl (cJ, len, .inr (.inl fr)))] := hD
  have hl := lv_entry ([.ref hn]) (n := 1) (Nat.le_of_ble_eq_true rfl)
  rw [lg_entry_eq]
  generalize (lg_sl ([.ref hn]) ++ List.replicate (1 - (lg_sl ([.ref hn])).length) Slot.unset).toArray = ls at hl ⊢
  have hl : lv_has ls 1 [(0, .ref hn)] := hl
  have hin1 : ∀ w ∈ wsX10, w ∈ wsX1_forget := by decide +kernel
  have kf11 := hts (.fieldLink RX1 11 "SweepEqual$Nodes" "count" "I") (by decide +kernel)
  refine lv_aload_n hx hb dX1_forget_0 rfl (lv_at hl 0 rfl) ?_
  refine lv_iconst (v := nI 1) hx hb dX1_forget_1 (by decide) ?_
  refine va_put (D := D) (ci := 1) (v := .int (nI 1)) (ty := .int) (C := RX1) (T := TX1) (N := 5) hx hb hts hin1 tyX1 tyX1_ok nmX1 hown hK hP hD hS 0 rfl rfl 0 (by decide) kf11 (fun _ h9 => h9) rfl (by decide +kernel) rfl rfl (Nat.le_of_ble_eq_true rfl) dX1_forget_2 (fun H locs hP hD hS => ?_)
  have hP : va_P D vwCl [(hn, .inr (1, [.int (nI 1), .ref ow, .ref fi, .ref ma, .ref ro])), (ow, .inl (cI, 400, .inl fo)), (fi, .inl (cI, 400, .inl ff)), (ma, .inl (cJ, 400, .inr (.inl fk))), (ro, .inl (cJ, len, .inr (.inl fr)))] H := hP
  have hD : va_D A [(hn, .inr (1, [.int (nI 1), .ref ow, .ref fi, .ref ma, .ref ro])), (ow, .inl (cI, 400, .inl fo)), (fi, .inl (cI, 400, .inl ff)), (ma, .inl (cJ, 400, .inr (.inl fk))), (ro, .inl (cJ, len, .inr (.inl fr)))] := hD
  exact wr_v (()) hx hb hr hlocks hP hD hS dX1_forget_5 (rfl) (trivial)
set_option maxHeartbeats 4000000 in
set_option maxRecDepth 100000 in
/-- new nodes: FALSE alone -/
theorem w_X1_init  (sz : Nat) : Met l yX1_init wsX1_init { frames := 1, cells := 4, slots := 3248, locals := 12 } (wr_P D [(cI, .int), (cJ, .long)] [(hn, .inr (1, [.int 0, .null, .null, .null, .null]))] sz tp [.ref hn]) (wx (Su := Nat × Nat × Nat × Nat) D [(cI, .int), (cJ, .long)] (va_A [(hn, .inr (1, [.int 0, .null, .null, .null, .null]))] sz) (fun _ => none) (fun _ => True) (fun u => nW hn u.1 u.2.1 u.2.2.1 u.2.2.2 cI cJ 1 2048 (upd (fun _ => 0) 0 (-1)) (fun _ => 0) (fun _ => 0) (fun _ => 0))) 4 3248 (va_A [(hn, .inr (1, [.int 0, .null, .null, .null, .null]))] sz) := by
  refine Met.ofW (cc := cX1_init) (maxL := 1) (ret := none) (by decide) rfl ?_
  intro p e s m args below meth c s₁ B hml hv
  obtain ⟨rfl, hsz, ⟨hP, hK, hD0⟩, hE⟩ := hv
  have hx := B.exec
  have hb := B.bytes
  have hr := B.returns
  have hts := atoms_spec (ws := wsX1_init) B.pre
  have hown : s.vm.findClass RX1 = some m.cls := findClass_of_methodNamed B.named
  have hlocks := B.notSynchronized
  have hin : meth.name = "<init>" := (name_of_methodNamed B.named B.method).1
  subst hsz
  have hD := hD0.self (sz := s.heap.size)
  generalize hAe : va_A [(hn, .inr (1, [.int 0, .null, .null, .null, .null]))] s.heap.size = A at hD hE ⊢
  have hA : ∀ q : Nat, s.heap.size ≤ q → A q := fun q h => by rw [← hAe]; exact Or.inr h
  have hS : va_S A s.heap s.heap [] := va_S.rf
  have hP : va_P D vwCl [(hn, .inr (1, [.int 0, .null, .null, .null, .null]))] s.heap := hP
  have hD : va_D A [(hn, .inr (1, [.int 0, .null, .null, .null, .null]))] := hD
  have hl := lv_entry ([.ref hn]) (n := 1) (Nat.le_of_ble_eq_true rfl)
  rw [lg_entry_eq]
  generalize (lg_sl ([.ref hn]) ++ List.replicate (1 - (lg_sl ([.ref hn])).length) Slot.unset).toArray = ls at hl ⊢
  have hl : lv_has ls 1 [(0, .ref hn)] := hl
  have hin1 : ∀ w ∈ wsX10, w ∈ wsX1_init := by decide +kernel
  have kf11 := hts (.fieldLink RX1 11 "SweepEqual$Nodes" "count" "I") (by decide +kernel)
  have kf15 := hts (.fieldLink RX1 15 "SweepEqual$Nodes" "owners" "[I") (by decide +kernel)
  have kf19 := hts (.fieldLink RX1 19 "SweepEqual$Nodes" "firsts" "[I") (by decide +kernel)
  have kf22 := hts (.fieldLink RX1 22 "SweepEqual$Nodes" "marks" "[J") (by decide +kernel)
  have kf26 := hts (.fieldLink RX1 26 "SweepEqual$Nodes" "rows" "[J") (by decide +kernel)
  refine lv_aload_n hx hb dX1_init_0 rfl (lv_at hl 0 rfl) ?_
  have a1 := hts (.methodLink RX1 5 objectInit) (by decide +kernel)
  have a2 := hts (.instanceMethod objectInit) (by decide +kernel)
  have a3 : (Cond.code objectInit ⟨#[0xb1]⟩ 1 none).before ([.ref hn] : List Value).toArray s = true := hts _ (List.mem_of_getElem? (l := wsX1_init) (i := 3) rfl)
  refine W.objInit hx hb hown a1 a2 a3 rfl (by rw [hml]; exact hl.1) rfl dX1_init_1 (Nat.le_of_ble_eq_true rfl) (by show 12 ≤ 12; omega) ?_
  refine W.eq (g2 := F0 m 4 ls []) rfl ?_
  refine lv_aload_n hx hb dX1_init_4 rfl (lv_at hl 0 rfl) ?_
  refine lv_iconst (v := nI 1) hx hb dX1_init_5 (by decide) ?_
  refine va_put (D := D) (ci := 1) (v := .int (nI 1)) (ty := .int) (C := RX1) (T := TX1) (N := 5) hx hb hts hin1 tyX1 tyX1_ok nmX1 hown hK hP hD hS 0 rfl rfl 0 (by decide) kf11 (fun _ h9 => h9) rfl (by decide +kernel) rfl rfl (Nat.le_of_ble_eq_true rfl) dX1_init_6 (fun H locs hP hD hS => ?_)
  have hP : va_P D vwCl [(hn, .inr (1, [.int (nI 1), .null, .null, .null, .null]))] H := hP
  have hD : va_D A [(hn, .inr (1, [.int (nI 1), .null, .null, .null, .null]))] := hD
  refine lv_aload_n hx hb dX1_init_9 rfl (lv_at hl 0 rfl) ?_
  refine lv_sipush (v := nI 400) hx hb dX1_init_10 (by decide) ?_
  refine va_newa (atype := .int) (ty := .int) (N' := 400) (n := nI 400) (a0 := (400, .inl (fun _ => 0))) hx hb (hts (.arrayClass .int) (by decide +kernel)) rfl hK hP hD hS hA (fun _ => rfl) (nI_pos (by omega)) (nI_clamp (by omega)) (by simp only [componentBytes]; omega) (by show _ ≤ _; simp only [headSpec]; omega) (by show _ ≤ _; simp only [headSpec]; omega) dX1_init_13 (fun q_1 cA H hK9 hP hD hS => ?_)
  obtain rfl : cI = cA := arr_cls hK9 0 2 rfl rfl (fun _ h => h)
  clear hK9
  have hP : va_P D vwCl [(hn, .inr (1, [.int (nI 1), .null, .null, .null, .null])), (q_1, .inl (cI, 400, .inl (fun _ => 0)))] H := hP
  have hD : va_D A [(hn, .inr (1, [.int (nI 1), .null, .null, .null, .null])), (q_1, .inl (cI, 400, .inl (fun _ => 0)))] := hD
  refine W.widen (k := 1) (n := 400) (by omega) (by omega) ?_
  refine va_putF (D := D) (ci := 1) (v := .ref q_1) (ty := .array .int) (C := RX1) (T := TX1) (N := 5) hx hb hts hin1 tyX1 tyX1_ok nmX1 hown hK hP hD hS 0 rfl rfl 1 (by decide) kf15 (fun _ h9 => h9) rfl hin rfl (by decide +kernel) rfl rfl (Nat.le_of_ble_eq_true rfl) dX1_init_15 (fun H locs hP hD hS => ?_)
  have hP : va_P D vwCl [(hn, .inr (1, [.int (nI 1), .ref q_1, .null, .null, .null])), (q_1, .inl (cI, 400, .inl (fun _ => 0)))] H := hP
  have hD : va_D A [(hn, .inr (1, [.int (nI 1), .ref q_1, .null, .null, .null])), (q_1, .inl (cI, 400, .inl (fun _ => 0)))] := hD
  refine lv_aload_n hx hb dX1_init_18 rfl (lv_at hl 0 rfl) ?_
  refine va_get (D := D) (ci := 1) (v := .ref q_1) (C := RX1) (T := TX1) (N := 5) hx hb hts hin1 hown hK hP 0 rfl rfl 1 (by decide) kf15 (fun _ h9 => h9) rfl dX1_init_19 ?_
  refine lv_iconst (v := nI 0) hx hb dX1_init_22 (by decide) ?_
  refine lv_iconst (v := -1) hx hb dX1_init_23 (by decide) ?_
  refine va_iast hx hb hK hP hD hS 1 0 rfl rfl (vp_in_nI (by omega) (by omega)) dX1_init_24 (fun H locs hP hD hS => ?_)
  have hP : va_P D vwCl [(hn, .inr (1, [.int (nI 1), .ref q_1, .null, .null, .null])), (q_1, .inl (cI, 400, .inl (upd (fun _ => 0) (nI 0).toNatClampNeg (-1))))] H := hP
  have hD : va_D A [(hn, .inr (1, [.int (nI 1), .ref q_1, .null, .null, .null])), (q_1, .inl (cI, 400, .inl (upd (fun _ => 0) (nI 0).toNatClampNeg (-1))))] := hD
  rw [show upd (fun _ => 0) (nI 0).toNatClampNeg (-1) = upd (fun _ => 0) 0 (-1) from upI _ (by omega)] at hP hD
  refine lv_aload_n hx hb dX1_init_25 rfl (lv_at hl 0 rfl) ?_
  refine lv_sipush (v := nI 400) hx hb dX1_init_26 (by decide) ?_
  refine va_newa (atype := .int) (ty := .int) (N' := 400) (n := nI 400) (a0 := (400, .inl (fun _ => 0))) hx hb (hts (.arrayClass .int) (by decide +kernel)) rfl hK hP hD hS hA (fun _ => rfl) (nI_pos (by omega)) (nI_clamp (by omega)) (by simp only [componentBytes]; omega) (by show _ ≤ _; simp only [headSpec]; omega) (by show _ ≤ _; simp only [headSpec]; omega) dX1_init_29 (fun q_2 cA H hK9 hP hD hS => ?_)
  obtain rfl : cI = cA := arr_cls hK9 0 2 rfl rfl (fun _ h => h)
  clear hK9
  have hP : va_P D vwCl [(hn, .inr (1, [.int (nI 1), .ref q_1, .null, .null, .null])), (q_1, .inl (cI, 400, .inl (upd (fun _ => 0) 0 (-1)))), (q_2, .inl (cI, 400, .inl (fun _ => 0)))] H := hP
  have hD : va_D A [(hn, .inr (1, [.int (nI 1), .ref q_1, .null, .null, .null])), (q_1, .inl (cI, 400, .inl (upd (fun _ => 0) 0 (-1)))), (q_2, .inl (cI, 400, .inl (fun _ => 0)))] := hD
  refine W.widen (k := 2) (n := 800) (by omega) (by omega) ?_
  refine va_putF (D := D) (ci := 1) (v := .ref q_2) (ty := .array .int) (C := RX1) (T := TX1) (N := 5) hx hb hts hin1 tyX1 tyX1_ok nmX1 hown hK hP hD hS 0 rfl rfl 2 (by decide) kf19 (fun _ h9 => h9) rfl hin rfl (by decide +kernel) rfl rfl (Nat.le_of_ble_eq_true rfl) dX1_init_31 (fun H locs hP hD hS => ?_)
  have hP : va_P D vwCl [(hn, .inr (1, [.int (nI 1), .ref q_1, .ref q_2, .null, .null])), (q_1, .inl (cI, 400, .inl (upd (fun _ => 0) 0 (-1)))), (q_2, .inl (cI, 400, .inl (fun _ => 0)))] H := hP
  have hD : va_D A [(hn, .inr (1, [.int (nI 1), .ref q_1, .ref q_2, .null, .null])), (q_1, .inl (cI, 400, .inl (upd (fun _ => 0) 0 (-1)))), (q_2, .inl (cI, 400, .inl (fun _ => 0)))] := hD
  refine lv_aload_n hx hb dX1_init_34 rfl (lv_at hl 0 rfl) ?_
  refine lv_sipush (v := nI 400) hx hb dX1_init_35 (by decide) ?_
  refine va_newa (atype := .long) (ty := .long) (N' := 400) (n := nI 400) (a0 := (400, .inr (.inl (fun _ => 0)))) hx hb (hts (.arrayClass .long) (by decide +kernel)) rfl hK hP hD hS hA (fun _ => rfl) (nI_pos (by omega)) (nI_clamp (by omega)) (by simp only [componentBytes]; omega) (by show _ ≤ _; simp only [headSpec]; omega) (by show _ ≤ _; simp only [headSpec]; omega) dX1_init_38 (fun q_3 cA H hK9 hP hD hS => ?_)
  obtain rfl : cJ = cA := arr_cls hK9 1 2 rfl rfl (fun _ h => h)
  clear hK9
  have hP : va_P D vwCl [(hn, .inr (1, [.int (nI 1), .ref q_1, .ref q_2, .null, .null])), (q_1, .inl (cI, 400, .inl (upd (fun _ => 0) 0 (-1)))), (q_2, .inl (cI, 400, .inl (fun _ => 0))), (q_3, .inl (cJ, 400, .inr (.inl (fun _ => 0))))] H := hP
  have hD : va_D A [(hn, .inr (1, [.int (nI 1), .ref q_1, .ref q_2, .null, .null])), (q_1, .inl (cI, 400, .inl (upd (fun _ => 0) 0 (-1)))), (q_2, .inl (cI, 400, .inl (fun _ => 0))), (q_3, .inl (cJ, 400, .inr (.inl (fun _ => 0))))] := hD
  refine W.widen (k := 3) (n := 1200) (by omega) (by omega) ?_
  refine va_putF (D := D) (ci := 1) (v := .ref q_3) (ty := .array .long) (C := RX1) (T := TX1) (N := 5) hx hb hts hin1 tyX1 tyX1_ok nmX1 hown hK hP hD hS 0 rfl rfl 3 (by decide) kf22 (fun _ h9 => h9) rfl hin rfl (by decide +kernel) rfl rfl (Nat.le_of_ble_eq_true rfl) dX1_init_40 (fun H locs hP hD hS => ?_)
  have hP : va_P D vwCl [(hn, .inr (1, [.int (nI 1), .ref q_1, .ref q_2, .ref q_3, .null])), (q_1, .inl (cI, 400, .inl (upd (fun _ => 0) 0 (-1)))), (q_2, .inl (cI, 400, .inl (fun _ => 0))), (q_3, .inl (cJ, 400, .inr (.inl (fun _ => 0))))] H := hP
  have hD : va_D A [(hn, .inr (1, [.int (nI 1), .ref q_1, .ref q_2, .ref q_3, .null])), (q_1, .inl (cI, 400, .inl (upd (fun _ => 0) 0 (-1)))), (q_2, .inl (cI, 400, .inl (fun _ => 0))), (q_3, .inl (cJ, 400, .inr (.inl (fun _ => 0))))] := hD
  refine lv_aload_n hx hb dX1_init_43 rfl (lv_at hl 0 rfl) ?_
  refine lv_sipush (v := nI 2048) hx hb dX1_init_44 (by decide) ?_
  refine va_newa (atype := .long) (ty := .long) (N' := 2048) (n := nI 2048) (a0 := (2048, .inr (.inl (fun _ => 0)))) hx hb (hts (.arrayClass .long) (by decide +kernel)) rfl hK hP hD hS hA (fun _ => rfl) (nI_pos (by omega)) (nI_clamp (by omega)) (by simp only [componentBytes]; omega) (by show _ ≤ _; simp only [headSpec]; omega) (by show _ ≤ _; simp only [headSpec]; omega) dX1_init_47 (fun q_4 cA H hK9 hP hD hS => ?_)
  obtain rfl : cJ = cA := arr_cls hK9 1 2 rfl rfl (fun _ h => h)
  clear hK9
  have hP : va_P D vwCl [(hn, .inr (1, [.int (nI 1), .ref q_1, .ref q_2, .ref q_3, .null])), (q_1, .inl (cI, 400, .inl (upd (fun _ => 0) 0 (-1)))), (q_2, .inl (cI, 400, .inl (fun _ => 0))), (q_3, .inl (cJ, 400, .inr (.inl (fun _ => 0)))), (q_4, .inl (cJ, 2048, .inr (.inl (fun _ => 0))))] H := hP
  have hD : va_D A [(hn, .inr (1, [.int (nI 1), .ref q_1, .ref q_2, .ref q_3, .null])), (q_1, .inl (cI, 400, .inl (upd (fun _ => 0) 0 (-1)))), (q_2, .inl (cI, 400, .inl (fun _ => 0))), (q_3, .inl (cJ, 400, .inr (.inl (fun _ => 0)))), (q_4, .inl (cJ, 2048, .inr (.inl (fun _ => 0))))] := hD
  refine W.widen (k := 4) (n := 3248) (by omega) (by omega) ?_
  refine va_put (D := D) (ci := 1) (v := .ref q_4) (ty := .array .long) (C := RX1) (T := TX1) (N := 5) hx hb hts hin1 tyX1 tyX1_ok nmX1 hown hK hP hD hS 0 rfl rfl 4 (by decide) kf26 (fun _ h9 => h9) rfl (by decide +kernel) rfl rfl (Nat.le_of_ble_eq_true rfl) dX1_init_49 (fun H locs hP hD hS => ?_)
  have hP : va_P D vwCl [(hn, .inr (1, [.int (nI 1), .ref q_1, .ref q_2, .ref q_3, .ref q_4])), (q_1, .inl (cI, 400, .inl (upd (fun _ => 0) 0 (-1)))), (q_2, .inl (cI, 400, .inl (fun _ => 0))), (q_3, .inl (cJ, 400, .inr (.inl (fun _ => 0)))), (q_4, .inl (cJ, 2048, .inr (.inl (fun _ => 0))))] H := hP
  have hD : va_D A [(hn, .inr (1, [.int (nI 1), .ref q_1, .ref q_2, .ref q_3, .ref q_4])), (q_1, .inl (cI, 400, .inl (upd (fun _ => 0) 0 (-1)))), (q_2, .inl (cI, 400, .inl (fun _ => 0))), (q_3, .inl (cJ, 400, .inr (.inl (fun _ => 0)))), (q_4, .inl (cJ, 2048, .inr (.inl (fun _ => 0))))] := hD
  exact wr_v ((q_1, q_2, q_3, q_4)) hx hb hr hlocks hP hD hS dX1_init_52 (rfl) (trivial)
set_option maxHeartbeats 4000000 in
set_option maxRecDepth 100000 in
/-- Arrays.copyOf to a greater length -/
theorem w_J7_copyOf_c38d5 (nl : Nat) (h1 : len < nl) (h2 : nl ≤ 25600) (sz : Nat) : Met l yJ7_copyOf_c38d5 wsJ7_copyOf_c38d5 { frames := 1, cells := 1, slots := nl, locals := 30 } (wr_P D [(cI, .int), (cJ, .long)] [(ro, .inl (cJ, len, .inr (.inl fr)))] sz tp [.ref ro, .int (nI nl)]) (wx (Su := Nat) D [(cI, .int), (cJ, .long)] (va_A [(ro, .inl (cJ, len, .inr (.inl fr)))] sz) (fun u => some (.ref u)) (fun _ => True) (fun u => [(ro, .inl (cJ, len, .inr (.inl fr))), (u, .inl (cJ, nl, .inr (.inl (va_cpy fr (fun _ => 0) 0 0 len))))])) 1 nl (va_A [(ro, .inl (cJ, len, .inr (.inl fr)))] sz) := by
  refine Met.ofW (cc := cJ7_copyOf_c38d5) (maxL := 3) (ret := (some (.array .long))) (by decide) rfl ?_
  intro p e s m args below meth c s₁ B hml hv
  obtain ⟨rfl, hsz, ⟨hP, hK, hD0⟩, hE⟩ := hv
  have hx := B.exec
  have hb := B.bytes
  have hr := B.returns
  have hts := atoms_spec (ws := wsJ7_copyOf_c38d5) B.pre
  have hown : s.vm.findClass RJ7 = some m.cls := findClass_of_methodNamed B.named
  have hlocks := B.notSynchronized
  subst hsz
  have hD := hD0.self (sz := s.heap.size)
  generalize hAe : va_A [(ro, .inl (cJ, len, .inr (.inl fr)))] s.heap.size = A at hD hE ⊢
  have hA : ∀ q : Nat, s.heap.size ≤ q → A q := fun q h => by rw [← hAe]; exact Or.inr h
  have hS : va_S A s.heap s.heap [] := va_S.rf
  have hP : va_P D vwCl [(ro, .inl (cJ, len, .inr (.inl fr)))] s.heap := hP
  have hD : va_D A [(ro, .inl (cJ, len, .inr (.inl fr)))] := hD
  have hl := lv_entry ([.ref ro, .int (nI nl)]) (n := 3) (Nat.le_of_ble_eq_true rfl)
  rw [lg_entry_eq]
  generalize (lg_sl ([.ref ro, .int (nI nl)]) ++ List.replicate (3 - (lg_sl ([.ref ro, .int (nI nl)])).length) Slot.unset).toArray = ls at hl ⊢
  have hl : lv_has ls 3 [(0, .ref ro), (1, .int (nI nl))] := hl
  refine lv_iload_n hx hb dJ7_copyOf_c38d5_0 rfl (lv_at hl 1 rfl) ?_
  refine lv_aload_n hx hb dJ7_copyOf_c38d5_1 rfl (lv_at hl 0 rfl) ?_
  refine va_alen (v := nI len) hx hb hK hP 0 1 rfl rfl rfl dJ7_copyOf_c38d5_2 ?_
  refine lv_icmp_ne (tgt := 14) hx hb dJ7_copyOf_c38d5_3 (by decide) (fun c1 => ?_) (fun c1 => ?_)
  · have c1 : ¬ nl = len := fun h => c1 ((nI_eq (by omega) (by omega)).mpr h)
    refine lv_iload_n hx hb dJ7_copyOf_c38d5_14 rfl (lv_at hl 1 rfl) ?_
    refine va_newa (atype := .long) (ty := .long) (N' := nl) (n := nI nl) (a0 := (nl, .inr (.inl (fun _ => 0)))) hx hb (hts (.arrayClass .long) (by decide +kernel)) rfl hK hP hD hS hA (fun _ => rfl) (nI_pos (by omega)) (nI_clamp (by omega)) (by simp only [componentBytes]; omega) (by show _ ≤ _; simp only [headSpec]; omega) (by show _ ≤ _; simp only [headSpec]; omega) dJ7_copyOf_c38d5_15 (fun q9 cA H hK9 hP hD hS => ?_)
    obtain rfl : cJ = cA := arr_cls hK9 1 2 rfl rfl (fun _ h => h)
    clear hK9
    have hP : va_P D vwCl [(ro, .inl (cJ, len, .inr (.inl fr))), (q9, .inl (cJ, nl, .inr (.inl (fun _ => 0))))] H := hP
    have hD : va_D A [(ro, .inl (cJ, len, .inr (.inl fr))), (q9, .inl (cJ, nl, .inr (.inl (fun _ => 0))))] := hD
    refine W.widen (k := 1) (n := nl) (by omega) (by omega) ?_
    refine lv_astore_n (lv' := [(2, .ref q9), (0, .ref ro), (1, .int (nI nl))]) hx hb dJ7_copyOf_c38d5_17 rfl hl (by decide) rfl (fun ls hl => ?_)
    refine lv_aload_n hx hb dJ7_copyOf_c38d5_18 rfl (lv_at hl 1 rfl) ?_
    refine lv_iconst (v := nI 0) hx hb dJ7_copyOf_c38d5_19 (by decide) ?_
    refine lv_aload_n hx hb dJ7_copyOf_c38d5_20 rfl (lv_at hl 0 rfl) ?_
    refine lv_iconst (v := nI 0) hx hb dJ7_copyOf_c38d5_21 (by decide) ?_
    refine lv_aload_n hx hb dJ7_copyOf_c38d5_22 rfl (lv_at hl 1 rfl) ?_
    refine va_alen (v := nI len) hx hb hK hP 0 1 rfl rfl rfl dJ7_copyOf_c38d5_23 ?_
    refine lv_iload_n hx hb dJ7_copyOf_c38d5_24 rfl (lv_at hl 2 rfl) ?_
    refine va_mmin hx hb (by rw [hml]; exact hl.1.symm) hown (hts (.methodLink RJ7 304 Lib.Math.min.name) (by decide +kernel)) (hts (.static Lib.Math.min.name) (by decide +kernel)) (hts (.initialized "java/lang/Math") (by decide +kernel)) (hts (.code Lib.Math.min.name Lib.Math.min.code 2 (some .int)) (by decide +kernel)) (Nat.le_of_ble_eq_true rfl) (Nat.le_of_ble_eq_true rfl) (by show _ ≤ _; simp only [headSpec]; omega) (by show _ ≤ _; simp only [headSpec]; omega) dJ7_copyOf_c38d5_25 ?_
    refine tp_i (show (if nI nl < nI len then nI nl else nI len) = nI (min len nl) from min_I (by omega) (by omega)) ?_
    refine tp_i (show nI (min len nl) = nI len from congrArg nI (Nat.min_eq_left (by omega))) ?_
    refine va_copyl hx hb (by rw [hml]; exact hl.1.symm) hown (hts (.methodLink RJ7 150 arraycopyName) (by decide +kernel)) (hts (.native arraycopyName) (by decide +kernel)) (hts (.static arraycopyName) (by decide +kernel)) (hts (.initialized "java/lang/System") (by decide +kernel)) hK hP hD hS 0 1 1 1 rfl rfl rfl rfl rfl (nI_pos (by omega)) (nI_pos (by omega)) (nI_pos (by omega)) (by rw [nI_clamp (by omega), nI_clamp (by omega)]; omega) (by rw [nI_clamp (by omega), nI_clamp (by omega)]; omega) (fun _ _ => rfl) (Nat.le_of_ble_eq_true rfl) (Nat.le_of_ble_eq_true rfl) dJ7_copyOf_c38d5_28 (fun H locs hP hD hS => ?_)
    have hP : va_P D vwCl [(ro, .inl (cJ, len, .inr (.inl fr))), (q9, .inl (cJ, nl, .inr (.inl (va_cpy fr (fun _ => 0) (nI 0).toNatClampNeg (nI 0).toNatClampNeg (nI len).toNatClampNeg))))] H := hP
    have hD : va_D A [(ro, .inl (cJ, len, .inr (.inl fr))), (q9, .inl (cJ, nl, .inr (.inl (va_cpy fr (fun _ => 0) (nI 0).toNatClampNeg (nI 0).toNatClampNeg (nI len).toNatClampNeg))))] := hD
    rw [show (nI 0).toNatClampNeg = 0 from nI_clamp (by omega), show (nI len).toNatClampNeg = len from nI_clamp (by omega)] at hP hD
    refine lv_aload_n hx hb dJ7_copyOf_c38d5_31 rfl (lv_at hl 0 rfl) ?_
    exact wr_a q9 hx hb hr (Or.inr ⟨_, rfl⟩) hlocks hP hD hS dJ7_copyOf_c38d5_32 rfl trivial
  · have c1 : nl = len := (nI_eq (by omega) (by omega)).mp c1
    exact absurd c1 (by omega)
set_option maxHeartbeats 4000000 in
set_option maxRecDepth 100000 in
/-- room for a node more -/
theorem w_X1_growRows (h0 : cnt < 400) (h1 : 0 < len) (h2 : len ≤ 25600) (sz : Nat) : Met l yX1_growRows wsX1_growRows { frames := 2, cells := 1, slots := grS cnt len, locals := 52 } (wr_P D [(cI, .int), (cJ, .long)] (nW hn ow fi ma ro cI cJ cnt len fo ff fk fr) sz tp [.ref hn]) (wx (Su := Nat × (Nat → Int64)) D [(cI, .int), (cJ, .long)] (va_A (nW hn ow fi ma ro cI cJ cnt len fo ff fk fr) sz) (fun _ => none) (fun u => ∀ j, j < len → u.2 j = fr j) (fun u => nW hn ow fi ma u.1 cI cJ cnt (grL cnt len) fo ff fk u.2)) 1 (grS cnt len) (va_A (nW hn ow fi ma ro cI cJ cnt len fo ff fk fr) sz) := by
  refine Met.ofW (cc := cX1_growRows) (maxL := 1) (ret := none) (by decide) rfl ?_
  intro p e s m args below meth c s₁ B hml hv
  obtain ⟨rfl, hsz, ⟨hP, hK, hD0⟩, hE⟩ := hv
  have hx := B.exec
  have hb := B.bytes
  have hr := B.returns
  have hts := atoms_spec (ws := wsX1_growRows) B.pre
  have hown : s.vm.findClass RX1 = some m.cls := findClass_of_methodNamed B.named
  have hlocks := B.notSynchronized
  subst hsz
  have hD := hD0.self (sz := s.heap.size)
  generalize hAe : va_A (nW hn ow fi ma ro cI cJ cnt len fo ff fk fr) s.heap.size = A at hD hE ⊢
  have hA : ∀ q : Nat, s.heap.size ≤ q → A q := fun q h => by rw [← hAe]; exact Or.inr h
  have hS : va_S A s.heap s.heap [] := va_S.rf
  have hP : va_P D vwCl [(hn, .inr (1, [.int (nI cnt), .ref ow, .ref fi, .ref ma, .ref ro])), (ow, .inl (cI, 400, .inl fo)), (fi, .inl (cI, 400, .inl ff)), (ma, .inl (cJ, 400, .inr (.inl fk))), (ro, .inl (cJ, len, .inr (.inl fr)))] s.heap := hP
  have hD : va_D A [(hn, .inr (1, [.int (nI cnt), .ref ow, .ref fi, .ref ma, .ref ro])), (ow, .inl (cI, 400, .inl fo)), (fi, .inl (cI, 400, .inl ff)), (ma, .inl (cJ, 400, .inr (.inl fk))), (ro, .inl (cJ, len, .inr (.inl fr)))] := hD
  have hl := lv_entry ([.ref hn]) (n := 1) (Nat.le_of_ble_eq_true rfl)
  rw [lg_entry_eq]
  generalize (lg_sl ([.ref hn]) ++ List.replicate (1 - (lg_sl ([.ref hn])).length) Slot.unset).toArray = ls at hl ⊢
  have hl : lv_has ls 1 [(0, .ref hn)] := hl
  have hin1 : ∀ w ∈ wsX10, w ∈ wsX1_growRows := by decide +kernel
  have kf11 := hts (.fieldLink RX1 11 "SweepEqual$Nodes" "count" "I") (by decide +kernel)
  have kf26 := hts (.fieldLink RX1 26 "SweepEqual$Nodes" "rows" "[J") (by decide +kernel)
  refine lv_aload_n hx hb dX1_growRows_0 rfl (lv_at hl 0 rfl) ?_
  refine va_get (D := D) (ci := 1) (v := .int (nI cnt)) (C := RX1) (T := TX1) (N := 5) hx hb hts hin1 hown hK hP 0 rfl rfl 0 (by decide) kf11 (fun _ h9 => h9) rfl dX1_growRows_1 ?_
  refine lv_iconst (v := nI 1) hx hb dX1_growRows_4 (by decide) ?_
  refine lv_iadd hx hb dX1_growRows_5 ?_
  refine tp_i (show (nI cnt) + (nI 1) = nI (cnt + 1) from nI_add _ _) ?_
  refine lv_bipush (v := nI 64) hx hb dX1_growRows_6 (by decide) ?_
  refine lv_imul hx hb dX1_growRows_8 ?_
  refine tp_i (show (nI (cnt + 1)) * (nI 64) = nI ((cnt + 1) * 64) from pk_mul _ _) ?_
  refine lv_aload_n hx hb dX1_growRows_9 rfl (lv_at hl 0 rfl) ?_
  refine va_get (D := D) (ci := 1) (v := .ref ro) (C := RX1) (T := TX1) (N := 5) hx hb hts hin1 hown hK hP 0 rfl rfl 4 (by decide) kf26 (fun _ h9 => h9) rfl dX1_growRows_10 ?_
  refine va_alen (v := nI len) hx hb hK hP 4 1 rfl rfl rfl dX1_growRows_13 ?_
  refine lv_icmp_le (tgt := 41) hx hb dX1_growRows_14 (by decide) (fun c1 => ?_) (fun c1 => ?_)
  · have c1 : (cnt + 1) * 64 ≤ len := (nI_leI (by omega) (by omega)).mp c1
    have hg : grL cnt len = len := by simp [grL, c1]
    refine W.widen (k := 1) (n := grS cnt len) (by omega) (by omega) ?_
    rw [← hg] at hP hD
    exact wr_v (ro, fr) hx hb hr hlocks hP hD hS dX1_growRows_41 rfl (fun _ _ => rfl)
  · have c1 : ¬ ((cnt + 1) * 64 ≤ len) := fun h => c1 ((nI_leI (by omega) (by omega)).mpr h)
    have hg : grL cnt len = min (2 * len) 25600 := by simp [grL, c1]
    have hs : grS cnt len = min (2 * len) 25600 := by simp [grS, c1]
    have hm : len < min (2 * len) 25600 ∧ min (2 * len) 25600 ≤ 25600 := by omega
    refine lv_aload_n hx hb dX1_growRows_17 rfl (lv_at hl 0 rfl) ?_
    refine lv_aload_n hx hb dX1_growRows_18 rfl (lv_at hl 0 rfl) ?_
    refine va_get (D := D) (ci := 1) (v := .ref ro) (C := RX1) (T := TX1) (N := 5) hx hb hts hin1 hown hK hP 0 rfl rfl 4 (by decide) kf26 (fun _ h9 => h9) rfl dX1_growRows_19 ?_
    refine lv_iconst (v := nI 2) hx hb dX1_growRows_22 (by decide) ?_
    refine lv_aload_n hx hb dX1_growRows_23 rfl (lv_at hl 0 rfl) ?_
    refine va_get (D := D) (ci := 1) (v := .ref ro) (C := RX1) (T := TX1) (N := 5) hx hb hts hin1 hown hK hP 0 rfl rfl 4 (by decide) kf26 (fun _ h9 => h9) rfl dX1_growRows_24 ?_
    refine va_alen (v := nI len) hx hb hK hP 4 1 rfl rfl rfl dX1_growRows_27 ?_
    refine lv_imul hx hb dX1_growRows_28 ?_
    refine tp_i (show (nI 2) * (nI len) = nI (2 * len) from pk_mul _ _) ?_
    refine lv_sipush (v := nI 25600) hx hb dX1_growRows_29 (by decide) ?_
    refine va_mmin hx hb (by rw [hml]; exact hl.1.symm) hown (hts (.methodLink RX1 63 Lib.Math.min.name) (by decide +kernel)) (hts (.static Lib.Math.min.name) (by decide +kernel)) (hts (.initialized "java/lang/Math") (by decide +kernel)) (hts (.code Lib.Math.min.name Lib.Math.min.code 2 (some .int)) (by decide +kernel)) (Nat.le_of_ble_eq_true rfl) (Nat.le_of_ble_eq_true rfl) (by show _ ≤ _; simp only [headSpec]; omega) (by show _ ≤ _; simp only [headSpec]; omega) dX1_growRows_32 ?_
    refine tp_i (show (if nI 25600 < nI (2 * len) then nI 25600 else nI (2 * len)) = nI (min (2 * len) 25600) from min_I (by omega) (by omega)) ?_
    refine wr_S (As := [.ref ro, .int (nI (min (2 * len) 25600))]) (rest := [.ref hn]) (wc := [(ro, .inl (cJ, len, .inr (.inl fr)))]) (wr := [(hn, .inr (1, [.int (nI cnt), .ref ow, .ref fi, .ref ma, .ref ro])), (ow, .inl (cI, 400, .inl fo)), (fi, .inl (cI, 400, .inl ff)), (ma, .inl (cJ, 400, .inr (.inl fk)))]) ⟨hx, hb, hml, hown, hts⟩ (w_J7_copyOf_c38d5 l D cI cJ tp ro len fr (min (2 * len) 25600) (by omega) (by omega) _) (va_cwS 2 hts gX1_growRows_J7_copyOf_c38d5 rfl rfl rfl (by decide +kernel) ⟨Nat.le_of_ble_eq_true rfl, Nat.le_of_ble_eq_true rfl⟩) rfl hl.1 rfl (Nat.le_of_ble_eq_true rfl) dX1_growRows_35 ⟨by show _ ≤ _; simp only [headSpec]; omega, by show _ ≤ _; simp only [headSpec]; omega⟩ hK hP hD hS hA hE [4] [0, 1, 2, 3] rfl rfl (by decide) (by decide) (by decide) (fun q9 H locs _hu hP hD hS => ?_)
    have hP : va_P D vwCl [(hn, .inr (1, [.int (nI cnt), .ref ow, .ref fi, .ref ma, .ref ro])), (ow, .inl (cI, 400, .inl fo)), (fi, .inl (cI, 400, .inl ff)), (ma, .inl (cJ, 400, .inr (.inl fk))), (ro, .inl (cJ, len, .inr (.inl fr))), (q9, .inl (cJ, (min (2 * len) 25600), .inr (.inl (va_cpy fr (fun _ => 0) 0 0 len))))] H := hP
    have hD : va_D A [(hn, .inr (1, [.int (nI cnt), .ref ow, .ref fi, .ref ma, .ref ro])), (ow, .inl (cI, 400, .inl fo)), (fi, .inl (cI, 400, .inl ff)), (ma, .inl (cJ, 400, .inr (.inl fk))), (ro, .inl (cJ, len, .inr (.inl fr))), (q9, .inl (cJ, (min (2 * len) 25600), .inr (.inl (va_cpy fr (fun _ => 0) 0 0 len))))] := hD
    refine W.eq (g2 := F0 m 38 ls [.ref q9, .ref hn]) rfl ?_
    refine W.widen (k := 1) (n := grS cnt len) (by omega) (by omega) ?_
    refine va_put (D := D) (ci := 1) (v := .ref q9) (ty := .array .long) (C := RX1) (T := TX1) (N := 5) hx hb hts hin1 tyX1 tyX1_ok nmX1 hown hK hP hD hS 0 rfl rfl 4 (by decide) kf26 (fun _ h9 => h9) rfl (by decide +kernel) rfl rfl (Nat.le_of_ble_eq_true rfl) dX1_growRows_38 (fun H locs hP hD hS => ?_)
    have hP : va_P D vwCl [(hn, .inr (1, [.int (nI cnt), .ref ow, .ref fi, .ref ma, .ref q9])), (ow, .inl (cI, 400, .inl fo)), (fi, .inl (cI, 400, .inl ff)), (ma, .inl (cJ, 400, .inr (.inl fk))), (ro, .inl (cJ, len, .inr (.inl fr))), (q9, .inl (cJ, (min (2 * len) 25600), .inr (.inl (va_cpy fr (fun _ => 0) 0 0 len))))] H := hP
    have hD : va_D A [(hn, .inr (1, [.int (nI cnt), .ref ow, .ref fi, .ref ma, .ref q9])), (ow, .inl (cI, 400, .inl fo)), (fi, .inl (cI, 400, .inl ff)), (ma, .inl (cJ, 400, .inr (.inl fk))), (ro, .inl (cJ, len, .inr (.inl fr))), (q9, .inl (cJ, (min (2 * len) 25600), .inr (.inl (va_cpy fr (fun _ => 0) 0 0 len))))] := hD
    have hP := hP.sub (ws' := [(hn, .inr (1, [.int (nI cnt), .ref ow, .ref fi, .ref ma, .ref q9])), (ow, .inl (cI, 400, .inl fo)), (fi, .inl (cI, 400, .inl ff)), (ma, .inl (cJ, 400, .inr (.inl fk))), (q9, .inl (cJ, (min (2 * len) 25600), .inr (.inl (va_cpy fr (fun _ => 0) 0 0 len))))]) [0, 1, 2, 3, 5] rfl
    have hD := hD.sub (ws' := [(hn, .inr (1, [.int (nI cnt), .ref ow, .ref fi, .ref ma, .ref q9])), (ow, .inl (cI, 400, .inl fo)), (fi, .inl (cI, 400, .inl ff)), (ma, .inl (cJ, 400, .inr (.inl fk))), (q9, .inl (cJ, (min (2 * len) 25600), .inr (.inl (va_cpy fr (fun _ => 0) 0 0 len))))]) [0, 1, 2, 3, 5] (by decide) rfl
    rw [← hg] at hP hD
    exact wr_v (q9, va_cpy fr (fun _ => 0) 0 0 len) hx hb hr hlocks hP hD hS dX1_growRows_41 rfl (fun j hj => by show va_cpy fr (fun _ => 0) 0 0 len j = fr j; rw [pk_cpy_in (by omega) (by omega)]; congr 1; omega)
set_option maxHeartbeats 4000000 in
set_option maxRecDepth 100000 in
/-- a new node is entered: owner and first -/
theorem w_X1_settle (od : Int32) (h0 : cnt < 400) (h1 : cnt * 64 + 63 < len) (h2 : len ≤ 25600) (hfk : ∀ j, j < cnt → fk j = mkF fr j) (sz : Nat) : Met l yX1_settle wsX1_settle { frames := 4, cells := 0, slots := 0, locals := 93 } (wr_P D [(cI, .int), (cJ, .long)] (nW hn ow fi ma ro cI cJ cnt len fo ff fk fr) sz tp [.ref hn, .int od]) (wx (Su := Unit) D [(cI, .int), (cJ, .long)] (va_A (nW hn ow fi ma ro cI cJ cnt len fo ff fk fr) sz) (fun _ => some (.int (nI (2 * cnt)))) (fun _ => True) (fun _ => nW hn ow fi ma ro cI cJ (cnt + 1) len (upd fo cnt od) (upd ff cnt (ffF fr cnt cnt 0)) (vp_updL fk cnt (mkF fr cnt)) fr)) 0 0 (va_A (nW hn ow fi ma ro cI cJ cnt len fo ff fk fr) sz) := by
  refine Met.ofW (cc := cX1_settle) (maxL := 3) (ret := (some .int)) (by decide) rfl ?_
  intro p e s m args below meth c s₁ B hml hv
  obtain ⟨rfl, hsz, ⟨hP, hK, hD0⟩, hE⟩ := hv
  have hx := B.exec
  have hb := B.bytes
  have hr := B.returns
  have hts := atoms_spec (ws := wsX1_settle) B.pre
  have hown : s.vm.findClass RX1 = some m.cls := findClass_of_methodNamed B.named
  have hlocks := B.notSynchronized
  subst hsz
  have hD := hD0.self (sz := s.heap.size)
  generalize hAe : va_A (nW hn ow fi ma ro cI cJ cnt len fo ff fk fr) s.heap.size = A at hD hE ⊢
  have hA : ∀ q : Nat, s.heap.size ≤ q → A q := fun q h => by rw [← hAe]; exact Or.inr h
  have hS : va_S A s.heap s.heap [] := va_S.rf
  have hP : va_P D vwCl [(hn, .inr (1, [.int (nI cnt), .ref ow, .ref fi, .ref ma, .ref ro])), (ow, .inl (cI, 400, .inl fo)), (fi, .inl (cI, 400, .inl ff)), (ma, .inl (cJ, 400, .inr (.inl fk))), (ro, .inl (cJ, len, .inr (.inl fr)))] s.heap := hP
  have hD : va_D A [(hn, .inr (1, [.int (nI cnt), .ref ow, .ref fi, .ref ma, .ref ro])), (ow, .inl (cI, 400, .inl fo)), (fi, .inl (cI, 400, .inl ff)), (ma, .inl (cJ, 400, .inr (.inl fk))), (ro, .inl (cJ, len, .inr (.inl fr)))] := hD
  have hl := lv_entry ([.ref hn, .int od]) (n := 3) (Nat.le_of_ble_eq_true rfl)
  rw [lg_entry_eq]
  generalize (lg_sl ([.ref hn, .int od]) ++ List.replicate (3 - (lg_sl ([.ref hn, .int od])).length) Slot.unset).toArray = ls at hl ⊢
  have hl : lv_has ls 3 [(0, .ref hn), (1, .int od)] := hl
  have hin1 : ∀ w ∈ wsX10, w ∈ wsX1_settle := by decide +kernel
  have kf11 := hts (.fieldLink RX1 11 "SweepEqual$Nodes" "count" "I") (by decide +kernel)
  have kf15 := hts (.fieldLink RX1 15 "SweepEqual$Nodes" "owners" "[I") (by decide +kernel)
  have kf22 := hts (.fieldLink RX1 22 "SweepEqual$Nodes" "marks" "[J") (by decide +kernel)
  have kf19 := hts (.fieldLink RX1 19 "SweepEqual$Nodes" "firsts" "[I") (by decide +kernel)
  refine lv_aload_n hx hb dX1_settle_0 rfl (lv_at hl 0 rfl) ?_
  refine va_get (D := D) (ci := 1) (v := .int (nI cnt)) (C := RX1) (T := TX1) (N := 5) hx hb hts hin1 hown hK hP 0 rfl rfl 0 (by decide) kf11 (fun _ h9 => h9) rfl dX1_settle_1 ?_
  refine lv_istore_n (lv' := [(2, .int (nI cnt)), (0, .ref hn), (1, .int od)]) hx hb dX1_settle_4 rfl hl (by decide) rfl (fun ls hl => ?_)
  refine lv_aload_n hx hb dX1_settle_5 rfl (lv_at hl 1 rfl) ?_
  refine va_get (D := D) (ci := 1) (v := .ref ow) (C := RX1) (T := TX1) (N := 5) hx hb hts hin1 hown hK hP 0 rfl rfl 1 (by decide) kf15 (fun _ h9 => h9) rfl dX1_settle_6 ?_
  refine lv_iload_n hx hb dX1_settle_9 rfl (lv_at hl 0 rfl) ?_
  refine lv_iload_n hx hb dX1_settle_10 rfl (lv_at hl 2 rfl) ?_
  refine va_iast hx hb hK hP hD hS 1 0 rfl rfl (vp_in_nI (by omega) (by omega)) dX1_settle_11 (fun H locs hP hD hS => ?_)
  have hP : va_P D vwCl [(hn, .inr (1, [.int (nI cnt), .ref ow, .ref fi, .ref ma, .ref ro])), (ow, .inl (cI, 400, .inl (upd fo (nI cnt).toNatClampNeg od))), (fi, .inl (cI, 400, .inl ff)), (ma, .inl (cJ, 400, .inr (.inl fk))), (ro, .inl (cJ, len, .inr (.inl fr)))] H := hP
  have hD : va_D A [(hn, .inr (1, [.int (nI cnt), .ref ow, .ref fi, .ref ma, .ref ro])), (ow, .inl (cI, 400, .inl (upd fo (nI cnt).toNatClampNeg od))), (fi, .inl (cI, 400, .inl ff)), (ma, .inl (cJ, 400, .inr (.inl fk))), (ro, .inl (cJ, len, .inr (.inl fr)))] := hD
  rw [show upd fo (nI cnt).toNatClampNeg od = upd fo cnt od from upI _ (by omega)] at hP hD
  refine lv_aload_n hx hb dX1_settle_12 rfl (lv_at hl 1 rfl) ?_
  refine va_get (D := D) (ci := 1) (v := .ref ma) (C := RX1) (T := TX1) (N := 5) hx hb hts hin1 hown hK hP 0 rfl rfl 3 (by decide) kf22 (fun _ h9 => h9) rfl dX1_settle_13 ?_
  refine lv_iload_n hx hb dX1_settle_16 rfl (lv_at hl 0 rfl) ?_
  refine lv_aload_n hx hb dX1_settle_17 rfl (lv_at hl 1 rfl) ?_
  refine lv_iload_n hx hb dX1_settle_18 rfl (lv_at hl 0 rfl) ?_
  refine rd_V (As := [.int (nI cnt)]) (rest := [.int (nI cnt), .ref ma]) ⟨hx, hb, hml, hown, hts⟩ (c_X1_markOf l D cI cJ hn ow fi ma ro cnt len (upd fo cnt od) ff fk fr cnt h0 h1 h2) (cwV 1 hts gX1_settle_X1_markOf rfl rfl rfl (by decide +kernel) ⟨Nat.le_of_ble_eq_true rfl, Nat.le_of_ble_eq_true rfl⟩) (rd_pv (ci := 1) (q0 := 0) hK (hP.sub (ws' := [(hn, .inr (1, [.int (nI cnt), .ref ow, .ref fi, .ref ma, .ref ro])), (ow, .inl (cI, 400, .inl (upd fo cnt od))), (fi, .inl (cI, 400, .inl ff)), (ma, .inl (cJ, 400, .inr (.inl fk))), (ro, .inl (cJ, len, .inr (.inl fr)))]) [0, 1, 2, 3, 4] rfl) rfl rfl) rfl hl.1 rfl (Nat.le_of_ble_eq_true rfl) dX1_settle_19 ⟨by show _ ≤ _; simp only [headSpec]; omega, by show _ ≤ _; simp only [headSpec]; omega⟩ ?_
  refine va_last hx hb hK hP hD hS 3 1 rfl rfl (vp_in_nI (by omega) (by omega)) dX1_settle_22 (fun H locs hP hD hS => ?_)
  have hP : va_P D vwCl [(hn, .inr (1, [.int (nI cnt), .ref ow, .ref fi, .ref ma, .ref ro])), (ow, .inl (cI, 400, .inl (upd fo cnt od))), (fi, .inl (cI, 400, .inl ff)), (ma, .inl (cJ, 400, .inr (.inl (vp_updL fk (nI cnt).toNatClampNeg (mkF fr cnt))))), (ro, .inl (cJ, len, .inr (.inl fr)))] H := hP
  have hD : va_D A [(hn, .inr (1, [.int (nI cnt), .ref ow, .ref fi, .ref ma, .ref ro])), (ow, .inl (cI, 400, .inl (upd fo cnt od))), (fi, .inl (cI, 400, .inl ff)), (ma, .inl (cJ, 400, .inr (.inl (vp_updL fk (nI cnt).toNatClampNeg (mkF fr cnt))))), (ro, .inl (cJ, len, .inr (.inl fr)))] := hD
  rw [show vp_updL fk (nI cnt).toNatClampNeg (mkF fr cnt) = vp_updL fk cnt (mkF fr cnt) from upL _ (by omega)] at hP hD
  refine lv_aload_n hx hb dX1_settle_23 rfl (lv_at hl 1 rfl) ?_
  refine va_get (D := D) (ci := 1) (v := .ref fi) (C := RX1) (T := TX1) (N := 5) hx hb hts hin1 hown hK hP 0 rfl rfl 2 (by decide) kf19 (fun _ h9 => h9) rfl dX1_settle_24 ?_
  refine lv_iload_n hx hb dX1_settle_27 rfl (lv_at hl 0 rfl) ?_
  refine lv_aload_n hx hb dX1_settle_28 rfl (lv_at hl 1 rfl) ?_
  refine lv_iload_n hx hb dX1_settle_29 rfl (lv_at hl 0 rfl) ?_
  have hfk2 : ∀ j, j ≤ cnt → vp_updL fk cnt (mkF fr cnt) j = mkF fr j := fun j hj => by unfold vp_updL; by_cases q : j = cnt; rw [if_pos q, q]; rw [if_neg q]; exact hfk j (by omega)
  refine rd_V (As := [.int (nI cnt)]) (rest := [.int (nI cnt), .ref fi]) ⟨hx, hb, hml, hown, hts⟩ (c_X1_findFirst l D cI cJ hn ow fi ma ro cnt len (upd fo cnt od) ff (vp_updL fk cnt (mkF fr cnt)) fr cnt h0 h1 h2 hfk2) (cwV 1 hts gX1_settle_X1_findFirst rfl rfl rfl (by decide +kernel) ⟨Nat.le_of_ble_eq_true rfl, Nat.le_of_ble_eq_true rfl⟩) (rd_pv (ci := 1) (q0 := 0) hK (hP.sub (ws' := [(hn, .inr (1, [.int (nI cnt), .ref ow, .ref fi, .ref ma, .ref ro])), (ow, .inl (cI, 400, .inl (upd fo cnt od))), (fi, .inl (cI, 400, .inl ff)), (ma, .inl (cJ, 400, .inr (.inl (vp_updL fk cnt (mkF fr cnt))))), (ro, .inl (cJ, len, .inr (.inl fr)))]) [0, 1, 2, 3, 4] rfl) rfl rfl) rfl hl.1 rfl (Nat.le_of_ble_eq_true rfl) dX1_settle_30 ⟨by show _ ≤ _; simp only [headSpec]; omega, by show _ ≤ _; simp only [headSpec]; omega⟩ ?_
  refine va_iast hx hb hK hP hD hS 2 0 rfl rfl (vp_in_nI (by omega) (by omega)) dX1_settle_33 (fun H locs hP hD hS => ?_)
  have hP : va_P D vwCl [(hn, .inr (1, [.int (nI cnt), .ref ow, .ref fi, .ref ma, .ref ro])), (ow, .inl (cI, 400, .inl (upd fo cnt od))), (fi, .inl (cI, 400, .inl (upd ff (nI cnt).toNatClampNeg (ffF fr cnt cnt 0)))), (ma, .inl (cJ, 400, .inr (.inl (vp_updL fk cnt (mkF fr cnt))))), (ro, .inl (cJ, len, .inr (.inl fr)))] H := hP
  have hD : va_D A [(hn, .inr (1, [.int (nI cnt), .ref ow, .ref fi, .ref ma, .ref ro])), (ow, .inl (cI, 400, .inl (upd fo cnt od))), (fi, .inl (cI, 400, .inl (upd ff (nI cnt).toNatClampNeg (ffF fr cnt cnt 0)))), (ma, .inl (cJ, 400, .inr (.inl (vp_updL fk cnt (mkF fr cnt))))), (ro, .inl (cJ, len, .inr (.inl fr)))] := hD
  rw [show upd ff (nI cnt).toNatClampNeg (ffF fr cnt cnt 0) = upd ff cnt (ffF fr cnt cnt 0) from upI _ (by omega)] at hP hD
  refine lv_aload_n hx hb dX1_settle_34 rfl (lv_at hl 1 rfl) ?_
  refine lv_dup hx hb dX1_settle_35 rfl ?_
  refine va_get (D := D) (ci := 1) (v := .int (nI cnt)) (C := RX1) (T := TX1) (N := 5) hx hb hts hin1 hown hK hP 0 rfl rfl 0 (by decide) kf11 (fun _ h9 => h9) rfl dX1_settle_36 ?_
  refine lv_iconst (v := nI 1) hx hb dX1_settle_39 (by decide) ?_
  refine lv_iadd hx hb dX1_settle_40 ?_
  refine tp_i (show (nI cnt) + (nI 1) = nI (cnt + 1) from nI_add _ _) ?_
  refine va_put (D := D) (ci := 1) (v := .int (nI (cnt + 1))) (ty := .int) (C := RX1) (T := TX1) (N := 5) hx hb hts hin1 tyX1 tyX1_ok nmX1 hown hK hP hD hS 0 rfl rfl 0 (by decide) kf11 (fun _ h9 => h9) rfl (by decide +kernel) rfl rfl (Nat.le_of_ble_eq_true rfl) dX1_settle_41 (fun H locs hP hD hS => ?_)
  have hP : va_P D vwCl [(hn, .inr (1, [.int (nI (cnt + 1)), .ref ow, .ref fi, .ref ma, .ref ro])), (ow, .inl (cI, 400, .inl (upd fo cnt od))), (fi, .inl (cI, 400, .inl (upd ff cnt (ffF fr cnt cnt 0)))), (ma, .inl (cJ, 400, .inr (.inl (vp_updL fk cnt (mkF fr cnt))))), (ro, .inl (cJ, len, .inr (.inl fr)))] H := hP
  have hD : va_D A [(hn, .inr (1, [.int (nI (cnt + 1)), .ref ow, .ref fi, .ref ma, .ref ro])), (ow, .inl (cI, 400, .inl (upd fo cnt od))), (fi, .inl (cI, 400, .inl (upd ff cnt (ffF fr cnt cnt 0)))), (ma, .inl (cJ, 400, .inr (.inl (vp_updL fk cnt (mkF fr cnt))))), (ro, .inl (cJ, len, .inr (.inl fr)))] := hD
  refine lv_iconst (v := nI 2) hx hb dX1_settle_44 (by decide) ?_
  refine lv_iload_n hx hb dX1_settle_45 rfl (lv_at hl 0 rfl) ?_
  refine lv_imul hx hb dX1_settle_46 ?_
  refine tp_i (show (nI 2) * (nI cnt) = nI (2 * cnt) from pk_mul _ _) ?_
  exact wr_i (()) hx hb hr hlocks hP hD hS dX1_settle_47 (rfl) (trivial)
end WN
