/-! The model: differs, witness, out, state, count. -/
theorem wit_no {x : Int32} {ml : Nat} (hml : ml ≤ 4) (h1 : ¬ x - nI 100 < 0 ∧ ¬ nI ml ≤ x - nI 100) (h2 : ¬ x < nI 100) (h3 : x < nI 100 ∨ nI (100 + ml) ≤ x) : False := by
  have h4 := h3.resolve_left h2
  have e1 : (nI 100).toInt = 100 := by decide
  have e2 : (nI (100 + ml)).toInt = 100 + ml := (nI_toInt (by omega)).trans (by omega)
  have e3 : (nI ml).toInt = ml := nI_toInt (by omega)
  have b1 := x.toInt_lt
  have b2 := x.le_toInt
  rw [Int32.lt_iff_toInt_lt, e1] at h2
  rw [Int32.le_iff_toInt_le, e2] at h4
  have e4 : (x - nI 100).toInt = x.toInt - 100 := by
    rw [Int32.toInt_sub, e1]
    exact Int.bmod_eq_of_le (by omega) (by omega)
  have h5 := h1.2
  rw [Int32.le_iff_toInt_le, e3, e4] at h5
  omega
theorem cnt_no {x : Int32} (h : x.toInt < 0 ∨ 6 < x.toInt) : x < 0 ∨ nI 7 ≤ x := by
  rcases h with h | h
  · exact Or.inl (Int32.lt_iff_toInt_lt.mpr h)
  · exact Or.inr (Int32.le_iff_toInt_le.mpr (by rw [show (nI 7).toInt = 7 from by decide]; omega))
section MW4
variable (l : Launch) (D : va_G) (cI cJ : ClassId) (tp : Nat) (hm q0 q1 q2 q3 q4 q5 q6 q7 q8 q9 : Nat) (th : Int32) (nd : Nat) (fs : Nat → Int32) (ft : Nat → Int64) (mi ml : Nat) (fl : Nat → Int32) (gS gX gT gC gO : Nat → Nat) (fD : Nat → Int32) (gE : Nat → Nat) (sp : Nat) (fa : Int32)
set_option maxHeartbeats 4000000 in
set_option maxRecDepth 100000 in
/-- differs -/
theorem w_X3_differs (k : Nat) (hk : k < 2 ^ 31) (hml9 : ml ≤ 4) (hc0 : gC 0 ≤ 16) (hc1 : gC 1 ≤ 16) (hS9 : ∀ j, j < 8 → gS j < 2) (hO : ∀ j, j < min (gC 0) (gC 1) → gO j < 2 * nd ∧ gO (16 + j) < 2 * nd) (hX : ∀ j, j < ml → gX j < 2 * nd ∧ gX (4 + j) < 2 * nd) (hnd : nd ≤ 400) (sz : Nat) : Met l yX3_differs wsX3_differs { frames := 2, cells := 0, slots := 0, locals := 46 } (wr_P D [(cI, .int), (cJ, .long)] (mW hm q0 q1 q2 q3 q4 q5 q6 q7 q8 q9 cI cJ th nd fs ft mi ml fl gS gX gT gC gO fD gE sp fa) sz tp [.ref hm, .int (nI k)]) (wx (Su := Unit) D [(cI, .int), (cJ, .long)] (va_A (mW hm q0 q1 q2 q3 q4 q5 q6 q7 q8 q9 cI cJ th nd fs ft mi ml fl gS gX gT gC gO fD gE sp fa) sz) (fun _ => some (.int (deF (apF ft gO gX gS gC ml) 301 0 k))) (fun _ => True) (fun _ => mW hm q0 q1 q2 q3 q4 q5 q6 q7 q8 q9 cI cJ (nI 0) nd fs ft mi ml fl gS gX gT gC gO fD gE sp fa)) 0 0 (va_A (mW hm q0 q1 q2 q3 q4 q5 q6 q7 q8 q9 cI cJ th nd fs ft mi ml fl gS gX gT gC gO fD gE sp fa) sz) := by
  refine Met.ofW (cc := cX3_differs) (maxL := 5) (ret := (some .int)) (by decide) rfl ?_
  intro p e s m args below meth c s₁ B hml hv
  obtain ⟨rfl, hsz, ⟨hP, hK, hD0⟩, hE⟩ := hv
  have hx := B.exec
  have hb := B.bytes
  have hr := B.returns
  have hts := atoms_spec (ws := wsX3_differs) B.pre
  have hown : s.vm.findClass RX3 = some m.cls := findClass_of_methodNamed B.named
  have hlocks := B.notSynchronized
  subst hsz
  have hD := hD0.self (sz := s.heap.size)
  generalize hAe : va_A (mW hm q0 q1 q2 q3 q4 q5 q6 q7 q8 q9 cI cJ th nd fs ft mi ml fl gS gX gT gC gO fD gE sp fa) s.heap.size = A at hD hE ⊢
  have hA : ∀ q : Nat, s.heap.size ≤ q → A q := fun q h => by rw [← hAe]; exact Or.inr h
  have hS : va_S A s.heap s.heap [] := va_S.rf
  have hP : va_P D vwCl [(hm, .inr (3, [.int th, .int (nI nd), .ref q0, .ref q1, .int (nI mi), .int (nI ml), .ref q2, .ref q3, .ref q4, .ref q5, .ref q6, .ref q7, .ref q8, .ref q9, .int (nI sp), .int fa])), (q0, .inl (cI, 401, .inl fs)), (q1, .inl (cJ, 25664, .inr (.inl ft))), (q2, .inl (cI, 4, .inl fl)), (q3, .inl (cI, 8, .inl (fun j => nI (gS j)))), (q4, .inl (cI, 8, .inl (fun j => nI (gX j)))), (q5, .inl (cI, 8, .inl (fun j => nI (gT j)))), (q6, .inl (cI, 2, .inl (fun j => nI (gC j)))), (q7, .inl (cI, 32, .inl (fun j => nI (gO j)))), (q8, .inl (cI, 32, .inl fD)), (q9, .inl (cI, 2, .inl (fun j => nI (gE j))))] s.heap := hP
  have hD : va_D A [(hm, .inr (3, [.int th, .int (nI nd), .ref q0, .ref q1, .int (nI mi), .int (nI ml), .ref q2, .ref q3, .ref q4, .ref q5, .ref q6, .ref q7, .ref q8, .ref q9, .int (nI sp), .int fa])), (q0, .inl (cI, 401, .inl fs)), (q1, .inl (cJ, 25664, .inr (.inl ft))), (q2, .inl (cI, 4, .inl fl)), (q3, .inl (cI, 8, .inl (fun j => nI (gS j)))), (q4, .inl (cI, 8, .inl (fun j => nI (gX j)))), (q5, .inl (cI, 8, .inl (fun j => nI (gT j)))), (q6, .inl (cI, 2, .inl (fun j => nI (gC j)))), (q7, .inl (cI, 32, .inl (fun j => nI (gO j)))), (q8, .inl (cI, 32, .inl fD)), (q9, .inl (cI, 2, .inl (fun j => nI (gE j))))] := hD
  have hl := lv_entry ([.ref hm, .int (nI k)]) (n := 5) (Nat.le_of_ble_eq_true rfl)
  rw [lg_entry_eq]
  generalize (lg_sl ([.ref hm, .int (nI k)]) ++ List.replicate (5 - (lg_sl ([.ref hm, .int (nI k)])).length) Slot.unset).toArray = ls at hl ⊢
  have hl : lv_has ls 5 [(0, .ref hm), (1, .int (nI k))] := hl
  have hin3 : ∀ w ∈ wsX30, w ∈ wsX3_differs := by decide +kernel
  have kf44 := hts (.fieldLink RX3 44 "SweepEqualModel" "thrown" "I") (by decide +kernel)
  refine lv_aload_n hx hb dX3_differs_0 rfl (lv_at hl 0 rfl) ?_
  refine lv_iload_n hx hb dX3_differs_1 rfl (lv_at hl 1 rfl) ?_
  refine lv_if_ge (tgt := 9) hx hb dX3_differs_2 (by decide) (fun _ => ?_) (fun hc => absurd (nI_pos' (by omega)) hc)
  refine lv_iconst (v := nI 0) hx hb dX3_differs_9 (by decide) ?_
  refine va_put (D := D) (ci := 3) (v := .int (nI 0)) (ty := .int) (C := RX3) (T := TX3) (N := 16) hx hb hts hin3 tyX3 tyX3_ok nmX3 hown hK hP hD hS 0 rfl rfl 0 (by decide) kf44 (fun _ h9 => h9) rfl (by decide +kernel) rfl rfl (Nat.le_of_ble_eq_true rfl) dX3_differs_10 (fun H locs hP hD hS => ?_)
  have hP : va_P D vwCl [(hm, .inr (3, [.int (nI 0), .int (nI nd), .ref q0, .ref q1, .int (nI mi), .int (nI ml), .ref q2, .ref q3, .ref q4, .ref q5, .ref q6, .ref q7, .ref q8, .ref q9, .int (nI sp), .int fa])), (q0, .inl (cI, 401, .inl fs)), (q1, .inl (cJ, 25664, .inr (.inl ft))), (q2, .inl (cI, 4, .inl fl)), (q3, .inl (cI, 8, .inl (fun j => nI (gS j)))), (q4, .inl (cI, 8, .inl (fun j => nI (gX j)))), (q5, .inl (cI, 8, .inl (fun j => nI (gT j)))), (q6, .inl (cI, 2, .inl (fun j => nI (gC j)))), (q7, .inl (cI, 32, .inl (fun j => nI (gO j)))), (q8, .inl (cI, 32, .inl fD)), (q9, .inl (cI, 2, .inl (fun j => nI (gE j))))] H := hP
  have hD : va_D A [(hm, .inr (3, [.int (nI 0), .int (nI nd), .ref q0, .ref q1, .int (nI mi), .int (nI ml), .ref q2, .ref q3, .ref q4, .ref q5, .ref q6, .ref q7, .ref q8, .ref q9, .int (nI sp), .int fa])), (q0, .inl (cI, 401, .inl fs)), (q1, .inl (cJ, 25664, .inr (.inl ft))), (q2, .inl (cI, 4, .inl fl)), (q3, .inl (cI, 8, .inl (fun j => nI (gS j)))), (q4, .inl (cI, 8, .inl (fun j => nI (gX j)))), (q5, .inl (cI, 8, .inl (fun j => nI (gT j)))), (q6, .inl (cI, 2, .inl (fun j => nI (gC j)))), (q7, .inl (cI, 32, .inl (fun j => nI (gO j)))), (q8, .inl (cI, 32, .inl fD)), (q9, .inl (cI, 2, .inl (fun j => nI (gE j))))] := hD
  refine lv_iload_n hx hb dX3_differs_13 rfl (lv_at hl 1 rfl) ?_
  refine lv_istore_n (lv' := [(2, .int (nI k)), (0, .ref hm), (1, .int (nI k))]) hx hb dX3_differs_14 rfl hl (by decide) rfl (fun ls hl => ?_)
  refine lv_iconst (v := nI 0) hx hb dX3_differs_15 (by decide) ?_
  refine lv_istore_n (lv' := [(3, .int (nI 0)), (2, .int (nI k)), (0, .ref hm), (1, .int (nI k))]) hx hb dX3_differs_16 rfl hl (by decide) rfl (fun ls hl => ?_)
  have loop : ∀ (n : Nat) (t : Nat) (lf : Nat), t ≤ 301 → lf < 2 ^ 31 → deF (apF ft gO gX gS gC ml) 301 0 k = deF (apF ft gO gX gS gC ml) (301 - t) t lf → 301 - t < n → ∀ (H : Heap) (locs : List Loc) (ls : Array Slot), va_P D vwCl [(hm, .inr (3, [.int (nI 0), .int (nI nd), .ref q0, .ref q1, .int (nI mi), .int (nI ml), .ref q2, .ref q3, .ref q4, .ref q5, .ref q6, .ref q7, .ref q8, .ref q9, .int (nI sp), .int fa])), (q0, .inl (cI, 401, .inl fs)), (q1, .inl (cJ, 25664, .inr (.inl ft))), (q2, .inl (cI, 4, .inl fl)), (q3, .inl (cI, 8, .inl (fun j => nI (gS j)))), (q4, .inl (cI, 8, .inl (fun j => nI (gX j)))), (q5, .inl (cI, 8, .inl (fun j => nI (gT j)))), (q6, .inl (cI, 2, .inl (fun j => nI (gC j)))), (q7, .inl (cI, 32, .inl (fun j => nI (gO j)))), (q8, .inl (cI, 32, .inl fD)), (q9, .inl (cI, 2, .inl (fun j => nI (gE j))))] H → va_D A [(hm, .inr (3, [.int (nI 0), .int (nI nd), .ref q0, .ref q1, .int (nI mi), .int (nI ml), .ref q2, .ref q3, .ref q4, .ref q5, .ref q6, .ref q7, .ref q8, .ref q9, .int (nI sp), .int fa])), (q0, .inl (cI, 401, .inl fs)), (q1, .inl (cJ, 25664, .inr (.inl ft))), (q2, .inl (cI, 4, .inl fl)), (q3, .inl (cI, 8, .inl (fun j => nI (gS j)))), (q4, .inl (cI, 8, .inl (fun j => nI (gX j)))), (q5, .inl (cI, 8, .inl (fun j => nI (gT j)))), (q6, .inl (cI, 2, .inl (fun j => nI (gC j)))), (q7, .inl (cI, 32, .inl (fun j => nI (gO j)))), (q8, .inl (cI, 32, .inl fD)), (q9, .inl (cI, 2, .inl (fun j => nI (gE j))))] → va_S A s.heap H locs → lv_has ls 5 [(3, .int (nI t)), (2, .int (nI lf)), (0, .ref hm), (1, .int (nI k))] → W p l e (headSpec wsX3_differs { frames := 2, cells := 0, slots := 0, locals := 46 }).room s m ([.ref hm, .int (nI k)] : List Value).toArray below meth c H locs 0 0 (MQ below (wx (Su := Unit) D [(cI, .int), (cJ, .long)] A (fun _ => some (.int (deF (apF ft gO gX gS gC ml) 301 0 k))) (fun _ => True) (fun _ => mW hm q0 q1 q2 q3 q4 q5 q6 q7 q8 q9 cI cJ (nI 0) nd fs ft mi ml fl gS gX gT gC gO fD gE sp fa)) ([.ref hm, .int (nI k)] : List Value).toArray s 0 0 A) (F0 m 17 ls []) := by
    intro n
    induction n with
    | zero => intro t lf ht hlf hR hM; exact absurd hM (Nat.not_lt_zero _)
    | succ n ih =>
      intro t lf ht hlf hR hM H locs ls hP hD hS hl
      refine lv_iload_n hx hb dX3_differs_17 rfl (lv_at hl 0 rfl) ?_
      refine lv_sipush (v := nI 300) hx hb dX3_differs_18 (by decide) ?_
      refine lv_icmp_gt (tgt := 105) hx hb dX3_differs_21 (by decide) (fun c1 => ?_) (fun c1 => ?_)
      · have c1 : 300 < t := (nI_ltI (by omega) (by omega)).mp c1
        have hi2 : 301 - t = 0 := by omega
        refine lv_aload_n hx hb dX3_differs_105 rfl (lv_at hl 2 rfl) ?_
        refine va_get (D := D) (ci := 3) (v := .int (nI 0)) (C := RX3) (T := TX3) (N := 16) hx hb hts hin3 hown hK hP 0 rfl rfl 0 (by decide) kf44 (fun _ h9 => h9) rfl dX3_differs_106 ?_
        refine lv_if_le (tgt := 116) hx hb dX3_differs_109 (by decide) (fun _ => ?_) (fun hc => absurd hc (by decide))
        refine lv_iconst (v := -1) hx hb dX3_differs_116 (by decide) ?_
        exact wr_i (()) hx hb hr hlocks hP hD hS dX3_differs_117 (by rw [hR, hi2]; rfl) (trivial)
      · have c1 : ¬ (300 < t) := fun h => c1 ((nI_ltI (by omega) (by omega)).mpr h)
        obtain ⟨n9, hn9⟩ : ∃ n9, 301 - t = n9 + 1 := ⟨300 - t, by omega⟩
        have hn8 : 301 - (t + 1) = n9 := by omega
        have j1 : isF t = true → ∀ ls : Array Slot, lv_has ls 5 [(3, .int (nI t)), (2, .int (nI lf)), (0, .ref hm), (1, .int (nI k))] → W p l e (headSpec wsX3_differs { frames := 2, cells := 0, slots := 0, locals := 46 }).room s m ([.ref hm, .int (nI k)] : List Value).toArray below meth c H locs 0 0 (MQ below (wx (Su := Unit) D [(cI, .int), (cJ, .long)] A (fun _ => some (.int (deF (apF ft gO gX gS gC ml) 301 0 k))) (fun _ => True) (fun _ => mW hm q0 q1 q2 q3 q4 q5 q6 q7 q8 q9 cI cJ (nI 0) nd fs ft mi ml fl gS gX gT gC gO fD gE sp fa)) ([.ref hm, .int (nI k)] : List Value).toArray s 0 0 A) (F0 m 75 ls [.int (nI 1)]) := by
          intro hIs ls hl
          refine lv_istore (lv' := [(4, .int (nI 1)), (3, .int (nI t)), (2, .int (nI lf)), (0, .ref hm), (1, .int (nI k))]) hx hb dX3_differs_75 hl (by decide) rfl (fun ls hl => ?_)
          refine lv_iload hx hb dX3_differs_77 (lv_at hl 0 rfl) ?_
          refine lv_if_eq (tgt := 99) hx hb dX3_differs_79 (by decide) (fun hc => absurd hc (by decide)) (fun _ => ?_)
          refine lv_aload_n hx hb dX3_differs_82 rfl (lv_at hl 3 rfl) ?_
          refine lv_iload_n hx hb dX3_differs_83 rfl (lv_at hl 1 rfl) ?_
          refine rd_V (As := [.int (nI t)]) (rest := []) ⟨hx, hb, hml, hown, hts⟩ (c_X3_isApart l D cI cJ hm q0 q1 q2 q3 q4 q5 q6 q7 q8 q9 (nI 0) nd fs ft mi ml fl gS gX gT gC gO fD gE sp fa t (by omega) hml9 hc0 hc1 hS9 hO hX hnd) (cwV 1 hts gX3_differs_X3_isApart rfl rfl rfl (by decide +kernel) ⟨Nat.le_of_ble_eq_true rfl, Nat.le_of_ble_eq_true rfl⟩) (rd_pv (ci := 3) (q0 := 0) hK hP rfl rfl) rfl hl.1 rfl (Nat.le_of_ble_eq_true rfl) dX3_differs_84 ⟨by show _ ≤ _; simp only [headSpec]; omega, by show _ ≤ _; simp only [headSpec]; omega⟩ ?_
          refine lv_if_eq (tgt := 99) hx hb dX3_differs_87 (by decide) (fun c3 => ?_) (fun c3 => ?_)
          · have c3 := zI_eq0.mp c3
            refine lv_iinc (v := nI (t + 1)) (lv' := [(3, .int (nI (t + 1))), (4, .int (nI 1)), (2, .int (nI lf)), (0, .ref hm), (1, .int (nI k))]) hx hb dX3_differs_99 hl (k := 1) rfl (nI_add t 1) (by decide) rfl (fun ls hl => ?_)
            refine lv_goto (tgt := 17) hx hb dX3_differs_102 (by decide) ?_
            exact ih (t + 1) lf (by omega) (hlf) (by rw [hR, hn9, hn8]; simp [deF, hIs, c3]) (by omega) _ _ ls hP hD hS (lv_sub hl [0, 2, 3, 4] rfl)
          · have c3 : (apF ft gO gX gS gC ml) t = true := by simpa using fun h => c3 (zI_eq0.mpr h)
            refine lv_iload_n hx hb dX3_differs_90 rfl (lv_at hl 2 rfl) ?_
            refine lv_if_ne (tgt := 96) hx hb dX3_differs_91 (by decide) (fun c4 => ?_) (fun c4 => ?_)
            · have c4 : ¬ lf = 0 := fun h => c4 (by rw [h]; rfl)
              refine lv_iinc (v := nI (lf - 1)) (lv' := [(2, .int (nI (lf - 1))), (4, .int (nI 1)), (3, .int (nI t)), (0, .ref hm), (1, .int (nI k))]) hx hb dX3_differs_96 hl (k := 2) rfl (sb_m1 (by omega)) (by decide) rfl (fun ls hl => ?_)
              refine lv_iinc (v := nI (t + 1)) (lv' := [(3, .int (nI (t + 1))), (2, .int (nI (lf - 1))), (4, .int (nI 1)), (0, .ref hm), (1, .int (nI k))]) hx hb dX3_differs_99 hl (k := 2) rfl (nI_add t 1) (by decide) rfl (fun ls hl => ?_)
              refine lv_goto (tgt := 17) hx hb dX3_differs_102 (by decide) ?_
              exact ih (t + 1) (lf - 1) (by omega) (by omega) (by rw [hR, hn9, hn8]; simp [deF, hIs, c3, c4]) (by omega) _ _ ls hP hD hS (lv_sub hl [0, 1, 3, 4] rfl)
            · have c4 : lf = 0 := by by_cases hz : lf = 0; exact hz; exact absurd c4 (nI_ne0 (by omega) hlf)
              refine lv_iload_n hx hb dX3_differs_94 rfl (lv_at hl 1 rfl) ?_
              exact wr_i (()) hx hb hr hlocks hP hD hS dX3_differs_95 (by rw [hR, hn9]; simp [deF, hIs, c3, c4]) (trivial)
        have j0 : isF t = false → ∀ ls : Array Slot, lv_has ls 5 [(3, .int (nI t)), (2, .int (nI lf)), (0, .ref hm), (1, .int (nI k))] → W p l e (headSpec wsX3_differs { frames := 2, cells := 0, slots := 0, locals := 46 }).room s m ([.ref hm, .int (nI k)] : List Value).toArray below meth c H locs 0 0 (MQ below (wx (Su := Unit) D [(cI, .int), (cJ, .long)] A (fun _ => some (.int (deF (apF ft gO gX gS gC ml) 301 0 k))) (fun _ => True) (fun _ => mW hm q0 q1 q2 q3 q4 q5 q6 q7 q8 q9 cI cJ (nI 0) nd fs ft mi ml fl gS gX gT gC gO fD gE sp fa)) ([.ref hm, .int (nI k)] : List Value).toArray s 0 0 A) (F0 m 75 ls [.int (nI 0)]) := by
          intro hIs ls hl
          refine lv_istore (lv' := [(4, .int (nI 0)), (3, .int (nI t)), (2, .int (nI lf)), (0, .ref hm), (1, .int (nI k))]) hx hb dX3_differs_75 hl (by decide) rfl (fun ls hl => ?_)
          refine lv_iload hx hb dX3_differs_77 (lv_at hl 0 rfl) ?_
          refine lv_if_eq (tgt := 99) hx hb dX3_differs_79 (by decide) (fun _ => ?_) (fun hc => absurd hc (by decide))
          refine lv_iinc (v := nI (t + 1)) (lv' := [(3, .int (nI (t + 1))), (4, .int (nI 0)), (2, .int (nI lf)), (0, .ref hm), (1, .int (nI k))]) hx hb dX3_differs_99 hl (k := 1) rfl (nI_add t 1) (by decide) rfl (fun ls hl => ?_)
          refine lv_goto (tgt := 17) hx hb dX3_differs_102 (by decide) ?_
          exact ih (t + 1) lf (by omega) (hlf) (by rw [hR, hn9, hn8]; simp [deF, hIs]) (by omega) _ _ ls hP hD hS (lv_sub hl [0, 2, 3, 4] rfl)
        refine lv_aload_n hx hb dX3_differs_24 rfl (lv_at hl 2 rfl) ?_
        refine va_get (D := D) (ci := 3) (v := .int (nI 0)) (C := RX3) (T := TX3) (N := 16) hx hb hts hin3 hown hK hP 0 rfl rfl 0 (by decide) kf44 (fun _ h9 => h9) rfl dX3_differs_25 ?_
        refine lv_if_ne (tgt := 105) hx hb dX3_differs_28 (by decide) (fun hc => absurd hc (by decide)) (fun _ => ?_)
        refine lv_iload_n hx hb dX3_differs_31 rfl (lv_at hl 0 rfl) ?_
        refine lv_bipush (v := nI 16) hx hb dX3_differs_32 (by decide) ?_
        refine lv_icmp_lt (tgt := 70) hx hb dX3_differs_34 (by decide) (fun b34 => ?_) (fun b34 => ?_)
        · have b34 : t < 16 := (nI_ltI (by omega) (by omega)).mp b34
          refine lv_iconst (v := nI 1) hx hb dX3_differs_70 (by decide) ?_
          refine lv_goto (tgt := 75) hx hb dX3_differs_71 (by decide) ?_
          exact j1 (decide_eq_true (by omega)) ls (lv_sub hl [0, 1, 2, 3] rfl)
        · have b34 : ¬ (t < 16) := fun h => b34 ((nI_ltI (by omega) (by omega)).mpr h)
          refine lv_iload_n hx hb dX3_differs_37 rfl (lv_at hl 0 rfl) ?_
          refine lv_bipush (v := nI 100) hx hb dX3_differs_38 (by decide) ?_
          refine lv_icmp_lt (tgt := 49) hx hb dX3_differs_40 (by decide) (fun b40 => ?_) (fun b40 => ?_)
          · have b40 : t < 100 := (nI_ltI (by omega) (by omega)).mp b40
            refine lv_iload_n hx hb dX3_differs_49 rfl (lv_at hl 0 rfl) ?_
            refine lv_sipush (v := nI 200) hx hb dX3_differs_50 (by decide) ?_
            refine lv_icmp_lt (tgt := 63) hx hb dX3_differs_53 (by decide) (fun b53 => ?_) (fun b53 => ?_)
            · have b53 : t < 200 := (nI_ltI (by omega) (by omega)).mp b53
              refine lv_iload_n hx hb dX3_differs_63 rfl (lv_at hl 0 rfl) ?_
              refine lv_sipush (v := nI 300) hx hb dX3_differs_64 (by decide) ?_
              refine lv_icmp_ne (tgt := 74) hx hb dX3_differs_67 (by decide) (fun b67 => ?_) (fun b67 => ?_)
              · have b67 : ¬ t = 300 := fun h => b67 ((nI_eq (by omega) (by omega)).mpr h)
                refine lv_iconst (v := nI 0) hx hb dX3_differs_74 (by decide) ?_
                exact j0 (decide_eq_false (by omega)) ls (lv_sub hl [0, 1, 2, 3] rfl)
              · have b67 : t = 300 := (nI_eq (by omega) (by omega)).mp b67
                refine lv_iconst (v := nI 1) hx hb dX3_differs_70 (by decide) ?_
                refine lv_goto (tgt := 75) hx hb dX3_differs_71 (by decide) ?_
                exact j1 (decide_eq_true (by omega)) ls (lv_sub hl [0, 1, 2, 3] rfl)
            · have b53 : ¬ (t < 200) := fun h => b53 ((nI_ltI (by omega) (by omega)).mpr h)
              refine lv_iload_n hx hb dX3_differs_56 rfl (lv_at hl 0 rfl) ?_
              refine lv_sipush (v := nI 204) hx hb dX3_differs_57 (by decide) ?_
              refine lv_icmp_lt (tgt := 70) hx hb dX3_differs_60 (by decide) (fun b60 => ?_) (fun b60 => ?_)
              · have b60 : t < 204 := (nI_ltI (by omega) (by omega)).mp b60
                refine lv_iconst (v := nI 1) hx hb dX3_differs_70 (by decide) ?_
                refine lv_goto (tgt := 75) hx hb dX3_differs_71 (by decide) ?_
                exact j1 (decide_eq_true (by omega)) ls (lv_sub hl [0, 1, 2, 3] rfl)
              · have b60 : ¬ (t < 204) := fun h => b60 ((nI_ltI (by omega) (by omega)).mpr h)
                refine lv_iload_n hx hb dX3_differs_63 rfl (lv_at hl 0 rfl) ?_
                refine lv_sipush (v := nI 300) hx hb dX3_differs_64 (by decide) ?_
                refine lv_icmp_ne (tgt := 74) hx hb dX3_differs_67 (by decide) (fun b67 => ?_) (fun b67 => ?_)
                · have b67 : ¬ t = 300 := fun h => b67 ((nI_eq (by omega) (by omega)).mpr h)
                  refine lv_iconst (v := nI 0) hx hb dX3_differs_74 (by decide) ?_
                  exact j0 (decide_eq_false (by omega)) ls (lv_sub hl [0, 1, 2, 3] rfl)
                · have b67 : t = 300 := (nI_eq (by omega) (by omega)).mp b67
                  refine lv_iconst (v := nI 1) hx hb dX3_differs_70 (by decide) ?_
                  refine lv_goto (tgt := 75) hx hb dX3_differs_71 (by decide) ?_
                  exact j1 (decide_eq_true (by omega)) ls (lv_sub hl [0, 1, 2, 3] rfl)
          · have b40 : ¬ (t < 100) := fun h => b40 ((nI_ltI (by omega) (by omega)).mpr h)
            refine lv_iload_n hx hb dX3_differs_43 rfl (lv_at hl 0 rfl) ?_
            refine lv_bipush (v := nI 104) hx hb dX3_differs_44 (by decide) ?_
            refine lv_icmp_lt (tgt := 70) hx hb dX3_differs_46 (by decide) (fun b46 => ?_) (fun b46 => ?_)
            · have b46 : t < 104 := (nI_ltI (by omega) (by omega)).mp b46
              refine lv_iconst (v := nI 1) hx hb dX3_differs_70 (by decide) ?_
              refine lv_goto (tgt := 75) hx hb dX3_differs_71 (by decide) ?_
              exact j1 (decide_eq_true (by omega)) ls (lv_sub hl [0, 1, 2, 3] rfl)
            · have b46 : ¬ (t < 104) := fun h => b46 ((nI_ltI (by omega) (by omega)).mpr h)
              refine lv_iload_n hx hb dX3_differs_49 rfl (lv_at hl 0 rfl) ?_
              refine lv_sipush (v := nI 200) hx hb dX3_differs_50 (by decide) ?_
              refine lv_icmp_lt (tgt := 63) hx hb dX3_differs_53 (by decide) (fun b53 => ?_) (fun b53 => ?_)
              · have b53 : t < 200 := (nI_ltI (by omega) (by omega)).mp b53
                refine lv_iload_n hx hb dX3_differs_63 rfl (lv_at hl 0 rfl) ?_
                refine lv_sipush (v := nI 300) hx hb dX3_differs_64 (by decide) ?_
                refine lv_icmp_ne (tgt := 74) hx hb dX3_differs_67 (by decide) (fun b67 => ?_) (fun b67 => ?_)
                · have b67 : ¬ t = 300 := fun h => b67 ((nI_eq (by omega) (by omega)).mpr h)
                  refine lv_iconst (v := nI 0) hx hb dX3_differs_74 (by decide) ?_
                  exact j0 (decide_eq_false (by omega)) ls (lv_sub hl [0, 1, 2, 3] rfl)
                · have b67 : t = 300 := (nI_eq (by omega) (by omega)).mp b67
                  refine lv_iconst (v := nI 1) hx hb dX3_differs_70 (by decide) ?_
                  refine lv_goto (tgt := 75) hx hb dX3_differs_71 (by decide) ?_
                  exact j1 (decide_eq_true (by omega)) ls (lv_sub hl [0, 1, 2, 3] rfl)
              · have b53 : ¬ (t < 200) := fun h => b53 ((nI_ltI (by omega) (by omega)).mpr h)
                refine lv_iload_n hx hb dX3_differs_56 rfl (lv_at hl 0 rfl) ?_
                refine lv_sipush (v := nI 204) hx hb dX3_differs_57 (by decide) ?_
                refine lv_icmp_lt (tgt := 70) hx hb dX3_differs_60 (by decide) (fun b60 => ?_) (fun b60 => ?_)
                · have b60 : t < 204 := (nI_ltI (by omega) (by omega)).mp b60
                  refine lv_iconst (v := nI 1) hx hb dX3_differs_70 (by decide) ?_
                  refine lv_goto (tgt := 75) hx hb dX3_differs_71 (by decide) ?_
                  exact j1 (decide_eq_true (by omega)) ls (lv_sub hl [0, 1, 2, 3] rfl)
                · have b60 : ¬ (t < 204) := fun h => b60 ((nI_ltI (by omega) (by omega)).mpr h)
                  refine lv_iload_n hx hb dX3_differs_63 rfl (lv_at hl 0 rfl) ?_
                  refine lv_sipush (v := nI 300) hx hb dX3_differs_64 (by decide) ?_
                  refine lv_icmp_ne (tgt := 74) hx hb dX3_differs_67 (by decide) (fun b67 => ?_) (fun b67 => ?_)
                  · have b67 : ¬ t = 300 := fun h => b67 ((nI_eq (by omega) (by omega)).mpr h)
                    refine lv_iconst (v := nI 0) hx hb dX3_differs_74 (by decide) ?_
                    exact j0 (decide_eq_false (by omega)) ls (lv_sub hl [0, 1, 2, 3] rfl)
                  · have b67 : t = 300 := (nI_eq (by omega) (by omega)).mp b67
                    refine lv_iconst (v := nI 1) hx hb dX3_differs_70 (by decide) ?_
                    refine lv_goto (tgt := 75) hx hb dX3_differs_71 (by decide) ?_
                    exact j1 (decide_eq_true (by omega)) ls (lv_sub hl [0, 1, 2, 3] rfl)
  exact loop (301 - 0 + 1) 0 k (by omega) (hk) (rfl) (by omega) _ _ ls hP hD hS (lv_sub hl [0, 1, 2, 3] rfl)
set_option maxHeartbeats 4000000 in
set_option maxRecDepth 100000 in
/-- differs: below 0 -/
theorem w_X3_differsB (x : Int32) (hx9 : x < 0) (sz : Nat) : Met l yX3_differs wsX3_differs { frames := 2, cells := 0, slots := 0, locals := 46 } (wr_P D [(cI, .int), (cJ, .long)] (mW hm q0 q1 q2 q3 q4 q5 q6 q7 q8 q9 cI cJ th nd fs ft mi ml fl gS gX gT gC gO fD gE sp fa) sz tp [.ref hm, .int x]) (wx (Su := Unit) D [(cI, .int), (cJ, .long)] (va_A (mW hm q0 q1 q2 q3 q4 q5 q6 q7 q8 q9 cI cJ th nd fs ft mi ml fl gS gX gT gC gO fD gE sp fa) sz) (fun _ => some (.int (nI 0))) (fun _ => True) (fun _ => mW hm q0 q1 q2 q3 q4 q5 q6 q7 q8 q9 cI cJ (nI 1) nd fs ft mi ml fl gS gX gT gC gO fD gE sp fa)) 0 0 (va_A (mW hm q0 q1 q2 q3 q4 q5 q6 q7 q8 q9 cI cJ th nd fs ft mi ml fl gS gX gT gC gO fD gE sp fa) sz) := by
  refine Met.ofW (cc := cX3_differs) (maxL := 5) (ret := (some .int)) (by decide) rfl ?_
  intro p e s m args below meth c s₁ B hml hv
  obtain ⟨rfl, hsz, ⟨hP, hK, hD0⟩, hE⟩ := hv
  have hx := B.exec
  have hb := B.bytes
  have hr := B.returns
  have hts := atoms_spec (ws := wsX3_differs) B.pre
  have hown : s.vm.findClass RX3 = some m.cls := findClass_of_methodNamed B.named
  have hlocks := B.notSynchronized
  subst hsz
  have hD := hD0.self (sz := s.heap.size)
  generalize hAe : va_A (mW hm q0 q1 q2 q3 q4 q5 q6 q7 q8 q9 cI cJ th nd fs ft mi ml fl gS gX gT gC gO fD gE sp fa) s.heap.size = A at hD hE ⊢
  have hA : ∀ q : Nat, s.heap.size ≤ q → A q := fun q h => by rw [← hAe]; exact Or.inr h
  have hS : va_S A s.heap s.heap [] := va_S.rf
  have hP : va_P D vwCl [(hm, .inr (3, [.int th, .int (nI nd), .ref q0, .ref q1, .int (nI mi), .int (nI ml), .ref q2, .ref q3, .ref q4, .ref q5, .ref q6, .ref q7, .ref q8, .ref q9, .int (nI sp), .int fa])), (q0, .inl (cI, 401, .inl fs)), (q1, .inl (cJ, 25664, .inr (.inl ft))), (q2, .inl (cI, 4, .inl fl)), (q3, .inl (cI, 8, .inl (fun j => nI (gS j)))), (q4, .inl (cI, 8, .inl (fun j => nI (gX j)))), (q5, .inl (cI, 8, .inl (fun j => nI (gT j)))), (q6, .inl (cI, 2, .inl (fun j => nI (gC j)))), (q7, .inl (cI, 32, .inl (fun j => nI (gO j)))), (q8, .inl (cI, 32, .inl fD)), (q9, .inl (cI, 2, .inl (fun j => nI (gE j))))] s.heap := hP
  have hD : va_D A [(hm, .inr (3, [.int th, .int (nI nd), .ref q0, .ref q1, .int (nI mi), .int (nI ml), .ref q2, .ref q3, .ref q4, .ref q5, .ref q6, .ref q7, .ref q8, .ref q9, .int (nI sp), .int fa])), (q0, .inl (cI, 401, .inl fs)), (q1, .inl (cJ, 25664, .inr (.inl ft))), (q2, .inl (cI, 4, .inl fl)), (q3, .inl (cI, 8, .inl (fun j => nI (gS j)))), (q4, .inl (cI, 8, .inl (fun j => nI (gX j)))), (q5, .inl (cI, 8, .inl (fun j => nI (gT j)))), (q6, .inl (cI, 2, .inl (fun j => nI (gC j)))), (q7, .inl (cI, 32, .inl (fun j => nI (gO j)))), (q8, .inl (cI, 32, .inl fD)), (q9, .inl (cI, 2, .inl (fun j => nI (gE j))))] := hD
  have hl := lv_entry ([.ref hm, .int x]) (n := 5) (Nat.le_of_ble_eq_true rfl)
  rw [lg_entry_eq]
  generalize (lg_sl ([.ref hm, .int x]) ++ List.replicate (5 - (lg_sl ([.ref hm, .int x])).length) Slot.unset).toArray = ls at hl ⊢
  have hl : lv_has ls 5 [(0, .ref hm), (1, .int x)] := hl
  have hin3 : ∀ w ∈ wsX30, w ∈ wsX3_differs := by decide +kernel
  have kf44 := hts (.fieldLink RX3 44 "SweepEqualModel" "thrown" "I") (by decide +kernel)
  refine lv_aload_n hx hb dX3_differs_0 rfl (lv_at hl 0 rfl) ?_
  refine lv_iload_n hx hb dX3_differs_1 rfl (lv_at hl 1 rfl) ?_
  refine lv_if_ge (tgt := 9) hx hb dX3_differs_2 (by decide) (fun c1 => ?_) (fun c1 => ?_)
  · exact absurd hx9 (Int32.not_lt.mpr c1)
  · refine lv_iconst (v := nI 1) hx hb dX3_differs_5 (by decide) ?_
    refine lv_goto (tgt := 10) hx hb dX3_differs_6 (by decide) ?_
    refine va_put (D := D) (ci := 3) (v := .int (nI 1)) (ty := .int) (C := RX3) (T := TX3) (N := 16) hx hb hts hin3 tyX3 tyX3_ok nmX3 hown hK hP hD hS 0 rfl rfl 0 (by decide) kf44 (fun _ h9 => h9) rfl (by decide +kernel) rfl rfl (Nat.le_of_ble_eq_true rfl) dX3_differs_10 (fun H locs hP hD hS => ?_)
    have hP : va_P D vwCl [(hm, .inr (3, [.int (nI 1), .int (nI nd), .ref q0, .ref q1, .int (nI mi), .int (nI ml), .ref q2, .ref q3, .ref q4, .ref q5, .ref q6, .ref q7, .ref q8, .ref q9, .int (nI sp), .int fa])), (q0, .inl (cI, 401, .inl fs)), (q1, .inl (cJ, 25664, .inr (.inl ft))), (q2, .inl (cI, 4, .inl fl)), (q3, .inl (cI, 8, .inl (fun j => nI (gS j)))), (q4, .inl (cI, 8, .inl (fun j => nI (gX j)))), (q5, .inl (cI, 8, .inl (fun j => nI (gT j)))), (q6, .inl (cI, 2, .inl (fun j => nI (gC j)))), (q7, .inl (cI, 32, .inl (fun j => nI (gO j)))), (q8, .inl (cI, 32, .inl fD)), (q9, .inl (cI, 2, .inl (fun j => nI (gE j))))] H := hP
    have hD : va_D A [(hm, .inr (3, [.int (nI 1), .int (nI nd), .ref q0, .ref q1, .int (nI mi), .int (nI ml), .ref q2, .ref q3, .ref q4, .ref q5, .ref q6, .ref q7, .ref q8, .ref q9, .int (nI sp), .int fa])), (q0, .inl (cI, 401, .inl fs)), (q1, .inl (cJ, 25664, .inr (.inl ft))), (q2, .inl (cI, 4, .inl fl)), (q3, .inl (cI, 8, .inl (fun j => nI (gS j)))), (q4, .inl (cI, 8, .inl (fun j => nI (gX j)))), (q5, .inl (cI, 8, .inl (fun j => nI (gT j)))), (q6, .inl (cI, 2, .inl (fun j => nI (gC j)))), (q7, .inl (cI, 32, .inl (fun j => nI (gO j)))), (q8, .inl (cI, 32, .inl fD)), (q9, .inl (cI, 2, .inl (fun j => nI (gE j))))] := hD
    refine lv_iload_n hx hb dX3_differs_13 rfl (lv_at hl 1 rfl) ?_
    refine lv_istore_n (lv' := [(2, .int x), (0, .ref hm), (1, .int x)]) hx hb dX3_differs_14 rfl hl (by decide) rfl (fun ls hl => ?_)
    refine lv_iconst (v := nI 0) hx hb dX3_differs_15 (by decide) ?_
    refine lv_istore_n (lv' := [(3, .int (nI 0)), (2, .int x), (0, .ref hm), (1, .int x)]) hx hb dX3_differs_16 rfl hl (by decide) rfl (fun ls hl => ?_)
    refine lv_iload_n hx hb dX3_differs_17 rfl (lv_at hl 0 rfl) ?_
    refine lv_sipush (v := nI 300) hx hb dX3_differs_18 (by decide) ?_
    refine lv_icmp_gt (tgt := 105) hx hb dX3_differs_21 (by decide) (fun hc => absurd hc (by decide)) (fun _ => ?_)
    refine lv_aload_n hx hb dX3_differs_24 rfl (lv_at hl 2 rfl) ?_
    refine va_get (D := D) (ci := 3) (v := .int (nI 1)) (C := RX3) (T := TX3) (N := 16) hx hb hts hin3 hown hK hP 0 rfl rfl 0 (by decide) kf44 (fun _ h9 => h9) rfl dX3_differs_25 ?_
    refine lv_if_ne (tgt := 105) hx hb dX3_differs_28 (by decide) (fun _ => ?_) (fun hc => absurd hc (by decide))
    refine lv_aload_n hx hb dX3_differs_105 rfl (lv_at hl 2 rfl) ?_
    refine va_get (D := D) (ci := 3) (v := .int (nI 1)) (C := RX3) (T := TX3) (N := 16) hx hb hts hin3 hown hK hP 0 rfl rfl 0 (by decide) kf44 (fun _ h9 => h9) rfl dX3_differs_106 ?_
    refine lv_if_le (tgt := 116) hx hb dX3_differs_109 (by decide) (fun hc => absurd hc (by decide)) (fun _ => ?_)
    refine lv_iconst (v := nI 0) hx hb dX3_differs_112 (by decide) ?_
    refine lv_goto (tgt := 117) hx hb dX3_differs_113 (by decide) ?_
    exact wr_i (()) hx hb hr hlocks hP hD hS dX3_differs_117 (rfl) (trivial)
set_option maxHeartbeats 4000000 in
set_option maxRecDepth 100000 in
/-- witness of an output -/
theorem w_X3_witnessO (t : Nat) (ht : t < min (gC 0) (gC 1)) (hml9 : ml ≤ 4) (hc0 : gC 0 ≤ 16) (hc1 : gC 1 ≤ 16) (hO : ∀ j, j < min (gC 0) (gC 1) → gO j < 2 * nd ∧ gO (16 + j) < 2 * nd) (hX : ∀ j, j < ml → gX j < 2 * nd ∧ gX (4 + j) < 2 * nd) (hnd : nd ≤ 400) (sz : Nat) : Met l yX3_witness wsX3_witness { frames := 1, cells := 0, slots := 0, locals := 24 } (wr_P D [(cI, .int), (cJ, .long)] (mW hm q0 q1 q2 q3 q4 q5 q6 q7 q8 q9 cI cJ th nd fs ft mi ml fl gS gX gT gC gO fD gE sp fa) sz tp [.ref hm, .int (nI t)]) (wx (Su := Unit) D [(cI, .int), (cJ, .long)] (va_A (mW hm q0 q1 q2 q3 q4 q5 q6 q7 q8 q9 cI cJ th nd fs ft mi ml fl gS gX gT gC gO fD gE sp fa) sz) (fun _ => some (.int (wiF ft (gO t) (gO (16 + t)) 4096 0))) (fun _ => True) (fun _ => mW hm q0 q1 q2 q3 q4 q5 q6 q7 q8 q9 cI cJ (nI 0) nd fs ft mi ml fl gS gX gT gC gO fD gE sp fa)) 0 0 (va_A (mW hm q0 q1 q2 q3 q4 q5 q6 q7 q8 q9 cI cJ th nd fs ft mi ml fl gS gX gT gC gO fD gE sp fa) sz) := by
  refine Met.ofW (cc := cX3_witness) (maxL := 7) (ret := (some .int)) (by decide) rfl ?_
  intro p e s m args below meth c s₁ B hml hv
  obtain ⟨rfl, hsz, ⟨hP, hK, hD0⟩, hE⟩ := hv
  have hx := B.exec
  have hb := B.bytes
  have hr := B.returns
  have hts := atoms_spec (ws := wsX3_witness) B.pre
  have hown : s.vm.findClass RX3 = some m.cls := findClass_of_methodNamed B.named
  have hlocks := B.notSynchronized
  subst hsz
  have hD := hD0.self (sz := s.heap.size)
  generalize hAe : va_A (mW hm q0 q1 q2 q3 q4 q5 q6 q7 q8 q9 cI cJ th nd fs ft mi ml fl gS gX gT gC gO fD gE sp fa) s.heap.size = A at hD hE ⊢
  have hA : ∀ q : Nat, s.heap.size ≤ q → A q := fun q h => by rw [← hAe]; exact Or.inr h
  have hS : va_S A s.heap s.heap [] := va_S.rf
  have hP : va_P D vwCl [(hm, .inr (3, [.int th, .int (nI nd), .ref q0, .ref q1, .int (nI mi), .int (nI ml), .ref q2, .ref q3, .ref q4, .ref q5, .ref q6, .ref q7, .ref q8, .ref q9, .int (nI sp), .int fa])), (q0, .inl (cI, 401, .inl fs)), (q1, .inl (cJ, 25664, .inr (.inl ft))), (q2, .inl (cI, 4, .inl fl)), (q3, .inl (cI, 8, .inl (fun j => nI (gS j)))), (q4, .inl (cI, 8, .inl (fun j => nI (gX j)))), (q5, .inl (cI, 8, .inl (fun j => nI (gT j)))), (q6, .inl (cI, 2, .inl (fun j => nI (gC j)))), (q7, .inl (cI, 32, .inl (fun j => nI (gO j)))), (q8, .inl (cI, 32, .inl fD)), (q9, .inl (cI, 2, .inl (fun j => nI (gE j))))] s.heap := hP
  have hD : va_D A [(hm, .inr (3, [.int th, .int (nI nd), .ref q0, .ref q1, .int (nI mi), .int (nI ml), .ref q2, .ref q3, .ref q4, .ref q5, .ref q6, .ref q7, .ref q8, .ref q9, .int (nI sp), .int fa])), (q0, .inl (cI, 401, .inl fs)), (q1, .inl (cJ, 25664, .inr (.inl ft))), (q2, .inl (cI, 4, .inl fl)), (q3, .inl (cI, 8, .inl (fun j => nI (gS j)))), (q4, .inl (cI, 8, .inl (fun j => nI (gX j)))), (q5, .inl (cI, 8, .inl (fun j => nI (gT j)))), (q6, .inl (cI, 2, .inl (fun j => nI (gC j)))), (q7, .inl (cI, 32, .inl (fun j => nI (gO j)))), (q8, .inl (cI, 32, .inl fD)), (q9, .inl (cI, 2, .inl (fun j => nI (gE j))))] := hD
  have hl := lv_entry ([.ref hm, .int (nI t)]) (n := 7) (Nat.le_of_ble_eq_true rfl)
  rw [lg_entry_eq]
  generalize (lg_sl ([.ref hm, .int (nI t)]) ++ List.replicate (7 - (lg_sl ([.ref hm, .int (nI t)])).length) Slot.unset).toArray = ls at hl ⊢
  have hl : lv_has ls 7 [(0, .ref hm), (1, .int (nI t))] := hl
  have hin3 : ∀ w ∈ wsX30, w ∈ wsX3_witness := by decide +kernel
  have kf54 := hts (.fieldLink RX3 54 "SweepEqualModel" "latches" "I") (by decide +kernel)
  have kf44 := hts (.fieldLink RX3 44 "SweepEqualModel" "thrown" "I") (by decide +kernel)
  have kf32 := hts (.fieldLink RX3 32 "SweepEqualModel" "outputs" "[I") (by decide +kernel)
  have kf23 := hts (.fieldLink RX3 23 "SweepEqualModel" "nexts" "[I") (by decide +kernel)
  have hx9 := hO t ht
  refine lv_iload_n hx hb dX3_witness_0 rfl (lv_at hl 1 rfl) ?_
  refine lv_aload_n hx hb dX3_witness_1 rfl (lv_at hl 0 rfl) ?_
  refine rd_V (As := []) (rest := [.int (nI t)]) ⟨hx, hb, hml, hown, hts⟩ (c_X3_both l D cI cJ hm q0 q1 q2 q3 q4 q5 q6 q7 q8 q9 th nd fs ft mi ml fl gS gX gT gC gO fD gE sp fa hc0 hc1) (cwV 0 hts gX3_witness_X3_both rfl rfl rfl (by decide +kernel) ⟨Nat.le_of_ble_eq_true rfl, Nat.le_of_ble_eq_true rfl⟩) (rd_pv (ci := 3) (q0 := 0) hK hP rfl rfl) rfl hl.1 rfl (Nat.le_of_ble_eq_true rfl) dX3_witness_2 ⟨by show _ ≤ _; simp only [headSpec]; omega, by show _ ≤ _; simp only [headSpec]; omega⟩ ?_
  refine rd_S (As := [.int (nI t), .int (nI (min (gC 0) (gC 1)))]) (rest := []) ⟨hx, hb, hml, hown, hts⟩ (c_X3_isIn l (nI t) (nI (min (gC 0) (gC 1)))) (va_cwS 2 hts gX3_witness_X3_isIn rfl rfl rfl (by decide +kernel) ⟨Nat.le_of_ble_eq_true rfl, Nat.le_of_ble_eq_true rfl⟩) preEq rfl hl.1 rfl (Nat.le_of_ble_eq_true rfl) dX3_witness_5 ⟨by show _ ≤ _; simp only [headSpec]; omega, by show _ ≤ _; simp only [headSpec]; omega⟩ ?_
  refine tp_i (show zI (decide (¬ nI t < 0 ∧ ¬ nI (min (gC 0) (gC 1)) ≤ nI t)) = nI 1 from lit_t ht (by omega)) ?_
  refine lv_istore_n (lv' := [(2, .int (nI 1)), (0, .ref hm), (1, .int (nI t))]) hx hb dX3_witness_8 rfl hl (by decide) rfl (fun ls hl => ?_)
  refine lv_iload_n hx hb dX3_witness_9 rfl (lv_at hl 2 rfl) ?_
  refine lv_bipush (v := nI 100) hx hb dX3_witness_10 (by decide) ?_
  refine lv_isub hx hb dX3_witness_12 ?_
  refine lv_aload_n hx hb dX3_witness_13 rfl (lv_at hl 1 rfl) ?_
  refine va_get (D := D) (ci := 3) (v := .int (nI ml)) (C := RX3) (T := TX3) (N := 16) hx hb hts hin3 hown hK hP 0 rfl rfl 5 (by decide) kf54 (fun _ h9 => h9) rfl dX3_witness_14 ?_
  refine rd_S (As := [.int ((nI t) - (nI 100)), .int (nI ml)]) (rest := []) ⟨hx, hb, hml, hown, hts⟩ (c_X3_isIn l (nI t - nI 100) (nI ml)) (va_cwS 2 hts gX3_witness_X3_isIn rfl rfl rfl (by decide +kernel) ⟨Nat.le_of_ble_eq_true rfl, Nat.le_of_ble_eq_true rfl⟩) preEq rfl hl.1 rfl (Nat.le_of_ble_eq_true rfl) dX3_witness_17 ⟨by show _ ≤ _; simp only [headSpec]; omega, by show _ ≤ _; simp only [headSpec]; omega⟩ ?_
  refine lv_if_eq (tgt := 33) hx hb dX3_witness_20 (by decide) (fun c1 => ?_) (fun c1 => ?_)
  · refine lv_iconst (v := nI 0) hx hb dX3_witness_33 (by decide) ?_
    refine lv_istore_n (lv' := [(3, .int (nI 0)), (2, .int (nI 1)), (0, .ref hm), (1, .int (nI t))]) hx hb dX3_witness_34 rfl hl (by decide) rfl (fun ls hl => ?_)
    refine lv_aload_n hx hb dX3_witness_35 rfl (lv_at hl 2 rfl) ?_
    refine lv_iload_n hx hb dX3_witness_36 rfl (lv_at hl 1 rfl) ?_
    refine lv_if_ne (tgt := 44) hx hb dX3_witness_37 (by decide) (fun _ => ?_) (fun hc => absurd hc (by decide))
    refine lv_iconst (v := nI 0) hx hb dX3_witness_44 (by decide) ?_
    refine lv_goto (tgt := 49) hx hb dX3_witness_45 (by decide) ?_
    refine va_put (D := D) (ci := 3) (v := .int (nI 0)) (ty := .int) (C := RX3) (T := TX3) (N := 16) hx hb hts hin3 tyX3 tyX3_ok nmX3 hown hK hP hD hS 0 rfl rfl 0 (by decide) kf44 (fun _ h9 => h9) rfl (by decide +kernel) rfl rfl (Nat.le_of_ble_eq_true rfl) dX3_witness_49 (fun H locs hP hD hS => ?_)
    have hP : va_P D vwCl [(hm, .inr (3, [.int (nI 0), .int (nI nd), .ref q0, .ref q1, .int (nI mi), .int (nI ml), .ref q2, .ref q3, .ref q4, .ref q5, .ref q6, .ref q7, .ref q8, .ref q9, .int (nI sp), .int fa])), (q0, .inl (cI, 401, .inl fs)), (q1, .inl (cJ, 25664, .inr (.inl ft))), (q2, .inl (cI, 4, .inl fl)), (q3, .inl (cI, 8, .inl (fun j => nI (gS j)))), (q4, .inl (cI, 8, .inl (fun j => nI (gX j)))), (q5, .inl (cI, 8, .inl (fun j => nI (gT j)))), (q6, .inl (cI, 2, .inl (fun j => nI (gC j)))), (q7, .inl (cI, 32, .inl (fun j => nI (gO j)))), (q8, .inl (cI, 32, .inl fD)), (q9, .inl (cI, 2, .inl (fun j => nI (gE j))))] H := hP
    have hD : va_D A [(hm, .inr (3, [.int (nI 0), .int (nI nd), .ref q0, .ref q1, .int (nI mi), .int (nI ml), .ref q2, .ref q3, .ref q4, .ref q5, .ref q6, .ref q7, .ref q8, .ref q9, .int (nI sp), .int fa])), (q0, .inl (cI, 401, .inl fs)), (q1, .inl (cJ, 25664, .inr (.inl ft))), (q2, .inl (cI, 4, .inl fl)), (q3, .inl (cI, 8, .inl (fun j => nI (gS j)))), (q4, .inl (cI, 8, .inl (fun j => nI (gX j)))), (q5, .inl (cI, 8, .inl (fun j => nI (gT j)))), (q6, .inl (cI, 2, .inl (fun j => nI (gC j)))), (q7, .inl (cI, 32, .inl (fun j => nI (gO j)))), (q8, .inl (cI, 32, .inl fD)), (q9, .inl (cI, 2, .inl (fun j => nI (gE j))))] := hD
    refine lv_aload_n hx hb dX3_witness_52 rfl (lv_at hl 2 rfl) ?_
    refine va_get (D := D) (ci := 3) (v := .int (nI 0)) (C := RX3) (T := TX3) (N := 16) hx hb hts hin3 hown hK hP 0 rfl rfl 0 (by decide) kf44 (fun _ h9 => h9) rfl dX3_witness_53 ?_
    refine lv_if_le (tgt := 61) hx hb dX3_witness_56 (by decide) (fun _ => ?_) (fun hc => absurd hc (by decide))
    refine lv_iload_n hx hb dX3_witness_61 rfl (lv_at hl 1 rfl) ?_
    refine lv_if_eq (tgt := 74) hx hb dX3_witness_62 (by decide) (fun hc => absurd hc (by decide)) (fun _ => ?_)
    refine lv_aload_n hx hb dX3_witness_65 rfl (lv_at hl 2 rfl) ?_
    refine va_get (D := D) (ci := 3) (v := .ref q7) (C := RX3) (T := TX3) (N := 16) hx hb hts hin3 hown hK hP 0 rfl rfl 11 (by decide) kf32 (fun _ h9 => h9) rfl dX3_witness_66 ?_
    refine lv_iload_n hx hb dX3_witness_69 rfl (lv_at hl 3 rfl) ?_
    refine va_iald hx hb hK hP 8 0 rfl rfl (vp_in_nI (by omega) (by omega)) dX3_witness_70 ?_
    refine tp_i (show (fun j => nI (gO j)) (nI t).toNatClampNeg = nI (gO t) from congrArg (fun j => nI (gO j)) (nI_clamp (by omega))) ?_
    refine lv_goto (tgt := 83) hx hb dX3_witness_71 (by decide) ?_
    refine lv_istore (lv' := [(4, .int (nI (gO t))), (3, .int (nI 0)), (2, .int (nI 1)), (0, .ref hm), (1, .int (nI t))]) hx hb dX3_witness_83 hl (by decide) rfl (fun ls hl => ?_)
    refine lv_iload_n hx hb dX3_witness_85 rfl (lv_at hl 2 rfl) ?_
    refine lv_if_eq (tgt := 101) hx hb dX3_witness_86 (by decide) (fun hc => absurd hc (by decide)) (fun _ => ?_)
    refine lv_aload_n hx hb dX3_witness_89 rfl (lv_at hl 3 rfl) ?_
    refine va_get (D := D) (ci := 3) (v := .ref q7) (C := RX3) (T := TX3) (N := 16) hx hb hts hin3 hown hK hP 0 rfl rfl 11 (by decide) kf32 (fun _ h9 => h9) rfl dX3_witness_90 ?_
    refine lv_bipush (v := nI 16) hx hb dX3_witness_93 (by decide) ?_
    refine lv_iload_n hx hb dX3_witness_95 rfl (lv_at hl 4 rfl) ?_
    refine lv_iadd hx hb dX3_witness_96 ?_
    refine tp_i (show (nI 16) + (nI t) = nI (16 + t) from nI_add _ _) ?_
    refine va_iald hx hb hK hP 8 0 rfl rfl (vp_in_nI (by omega) (by omega)) dX3_witness_97 ?_
    refine tp_i (show (fun j => nI (gO j)) (nI (16 + t)).toNatClampNeg = nI (gO (16 + t)) from congrArg (fun j => nI (gO j)) (nI_clamp (by omega))) ?_
    refine lv_goto (tgt := 110) hx hb dX3_witness_98 (by decide) ?_
    refine lv_istore (lv' := [(5, .int (nI (gO (16 + t)))), (4, .int (nI (gO t))), (3, .int (nI 0)), (2, .int (nI 1)), (0, .ref hm), (1, .int (nI t))]) hx hb dX3_witness_110 hl (by decide) rfl (fun ls hl => ?_)
    refine lv_iconst (v := nI 0) hx hb dX3_witness_112 (by decide) ?_
    refine lv_istore (lv' := [(6, .int (nI 0)), (5, .int (nI (gO (16 + t)))), (4, .int (nI (gO t))), (3, .int (nI 0)), (2, .int (nI 1)), (0, .ref hm), (1, .int (nI t))]) hx hb dX3_witness_113 hl (by decide) rfl (fun ls hl => ?_)
    have loop : ∀ (n : Nat) (a : Nat), a ≤ 4096 → wiF ft (gO t) (gO (16 + t)) 4096 0 = wiF ft (gO t) (gO (16 + t)) (4096 - a) a → 4096 - a < n → ∀ (H : Heap) (locs : List Loc) (ls : Array Slot), va_P D vwCl [(hm, .inr (3, [.int (nI 0), .int (nI nd), .ref q0, .ref q1, .int (nI mi), .int (nI ml), .ref q2, .ref q3, .ref q4, .ref q5, .ref q6, .ref q7, .ref q8, .ref q9, .int (nI sp), .int fa])), (q0, .inl (cI, 401, .inl fs)), (q1, .inl (cJ, 25664, .inr (.inl ft))), (q2, .inl (cI, 4, .inl fl)), (q3, .inl (cI, 8, .inl (fun j => nI (gS j)))), (q4, .inl (cI, 8, .inl (fun j => nI (gX j)))), (q5, .inl (cI, 8, .inl (fun j => nI (gT j)))), (q6, .inl (cI, 2, .inl (fun j => nI (gC j)))), (q7, .inl (cI, 32, .inl (fun j => nI (gO j)))), (q8, .inl (cI, 32, .inl fD)), (q9, .inl (cI, 2, .inl (fun j => nI (gE j))))] H → va_D A [(hm, .inr (3, [.int (nI 0), .int (nI nd), .ref q0, .ref q1, .int (nI mi), .int (nI ml), .ref q2, .ref q3, .ref q4, .ref q5, .ref q6, .ref q7, .ref q8, .ref q9, .int (nI sp), .int fa])), (q0, .inl (cI, 401, .inl fs)), (q1, .inl (cJ, 25664, .inr (.inl ft))), (q2, .inl (cI, 4, .inl fl)), (q3, .inl (cI, 8, .inl (fun j => nI (gS j)))), (q4, .inl (cI, 8, .inl (fun j => nI (gX j)))), (q5, .inl (cI, 8, .inl (fun j => nI (gT j)))), (q6, .inl (cI, 2, .inl (fun j => nI (gC j)))), (q7, .inl (cI, 32, .inl (fun j => nI (gO j)))), (q8, .inl (cI, 32, .inl fD)), (q9, .inl (cI, 2, .inl (fun j => nI (gE j))))] → va_S A s.heap H locs → lv_has ls 7 [(6, .int (nI a)), (5, .int (nI (gO (16 + t)))), (4, .int (nI (gO t))), (0, .ref hm), (1, .int (nI t))] → W p l e (headSpec wsX3_witness { frames := 1, cells := 0, slots := 0, locals := 24 }).room s m ([.ref hm, .int (nI t)] : List Value).toArray below meth c H locs 0 0 (MQ below (wx (Su := Unit) D [(cI, .int), (cJ, .long)] A (fun _ => some (.int (wiF ft (gO t) (gO (16 + t)) 4096 0))) (fun _ => True) (fun _ => mW hm q0 q1 q2 q3 q4 q5 q6 q7 q8 q9 cI cJ (nI 0) nd fs ft mi ml fl gS gX gT gC gO fD gE sp fa)) ([.ref hm, .int (nI t)] : List Value).toArray s 0 0 A) (F0 m 115 ls []) := by
      intro n
      induction n with
      | zero => intro a ha hR hM; exact absurd hM (Nat.not_lt_zero _)
      | succ n ih =>
        intro a ha hR hM H locs ls hP hD hS hl
        refine lv_iload hx hb dX3_witness_115 (lv_at hl 0 rfl) ?_
        refine lv_sipush (v := nI 4096) hx hb dX3_witness_117 (by decide) ?_
        refine lv_icmp_ge (tgt := 151) hx hb dX3_witness_120 (by decide) (fun c1 => ?_) (fun c1 => ?_)
        · have c1 : 4096 ≤ a := (nI_leI (by omega) (by omega)).mp c1
          have hi2 : 4096 - a = 0 := by omega
          refine lv_iconst (v := -1) hx hb dX3_witness_151 (by decide) ?_
          exact wr_i (()) hx hb hr hlocks hP hD hS dX3_witness_152 (by rw [hR, hi2]; rfl) (trivial)
        · have c1 : ¬ (4096 ≤ a) := fun h => c1 ((nI_leI (by omega) (by omega)).mpr h)
          obtain ⟨n9, hn9⟩ : ∃ n9, 4096 - a = n9 + 1 := ⟨4095 - a, by omega⟩
          have hn8 : 4096 - (a + 1) = n9 := by omega
          refine lv_aload_n hx hb dX3_witness_123 rfl (lv_at hl 3 rfl) ?_
          refine lv_iload hx hb dX3_witness_124 (lv_at hl 2 rfl) ?_
          refine lv_iload hx hb dX3_witness_126 (lv_at hl 0 rfl) ?_
          refine rd_V (As := [.int (nI (gO t)), .int (nI a)]) (rest := []) ⟨hx, hb, hml, hown, hts⟩ (c_X3_bit l D cI cJ hm q0 q1 q2 q3 q4 q5 q6 q7 q8 q9 (nI 0) nd fs ft mi ml fl gS gX gT gC gO fD gE sp fa (gO t) a (by omega) (by omega)) (cwV 2 hts gX3_witness_X3_bit rfl rfl rfl (by decide +kernel) ⟨Nat.le_of_ble_eq_true rfl, Nat.le_of_ble_eq_true rfl⟩) (rd_pv (ci := 3) (q0 := 0) hK hP rfl rfl) rfl hl.1 rfl (Nat.le_of_ble_eq_true rfl) dX3_witness_128 ⟨by show _ ≤ _; simp only [headSpec]; omega, by show _ ≤ _; simp only [headSpec]; omega⟩ ?_
          refine lv_aload_n hx hb dX3_witness_131 rfl (lv_at hl 3 rfl) ?_
          refine lv_iload hx hb dX3_witness_132 (lv_at hl 1 rfl) ?_
          refine lv_iload hx hb dX3_witness_134 (lv_at hl 0 rfl) ?_
          refine rd_V (As := [.int (nI (gO (16 + t))), .int (nI a)]) (rest := [.int (zI (bt ft (gO t) a))]) ⟨hx, hb, hml, hown, hts⟩ (c_X3_bit l D cI cJ hm q0 q1 q2 q3 q4 q5 q6 q7 q8 q9 (nI 0) nd fs ft mi ml fl gS gX gT gC gO fD gE sp fa (gO (16 + t)) a (by omega) (by omega)) (cwV 2 hts gX3_witness_X3_bit rfl rfl rfl (by decide +kernel) ⟨Nat.le_of_ble_eq_true rfl, Nat.le_of_ble_eq_true rfl⟩) (rd_pv (ci := 3) (q0 := 0) hK hP rfl rfl) rfl hl.1 rfl (Nat.le_of_ble_eq_true rfl) dX3_witness_136 ⟨by show _ ≤ _; simp only [headSpec]; omega, by show _ ≤ _; simp only [headSpec]; omega⟩ ?_
          refine lv_icmp_eq (tgt := 145) hx hb dX3_witness_139 (by decide) (fun c2 => ?_) (fun c2 => ?_)
          · have c2 := zI_inj.mp c2
            refine lv_iinc (v := nI (a + 1)) (lv' := [(6, .int (nI (a + 1))), (5, .int (nI (gO (16 + t)))), (4, .int (nI (gO t))), (0, .ref hm), (1, .int (nI t))]) hx hb dX3_witness_145 hl (k := 0) rfl (nI_add a 1) (by decide) rfl (fun ls hl => ?_)
            refine lv_goto (tgt := 115) hx hb dX3_witness_148 (by decide) ?_
            exact ih (a + 1) (by omega) (by rw [hR, hn9, hn8]; simp [wiF, c2]) (by omega) _ _ ls hP hD hS (lv_sub hl [0, 1, 2, 3, 4] rfl)
          · have c2 : ¬ bt ft (gO t) a = bt ft (gO (16 + t)) a := fun h => c2 (zI_inj.mpr h)
            refine lv_iload hx hb dX3_witness_142 (lv_at hl 0 rfl) ?_
            exact wr_i (()) hx hb hr hlocks hP hD hS dX3_witness_144 (by rw [hR, hn9]; simp [wiF, c2]) (trivial)
    exact loop (4096 - 0 + 1) 0 (by omega) (rfl) (by omega) _ _ ls hP hD hS (lv_sub hl [0, 1, 2, 5, 6] rfl)
  · refine lv_iload_n hx hb dX3_witness_23 rfl (lv_at hl 2 rfl) ?_
    refine lv_bipush (v := nI 100) hx hb dX3_witness_24 (by decide) ?_
    refine lv_icmp_lt (tgt := 33) hx hb dX3_witness_26 (by decide) (fun _ => ?_) (fun hc => absurd ((nI_ltI (by omega) (by omega)).mpr (by omega)) hc)
    refine lv_iconst (v := nI 0) hx hb dX3_witness_33 (by decide) ?_
    refine lv_istore_n (lv' := [(3, .int (nI 0)), (2, .int (nI 1)), (0, .ref hm), (1, .int (nI t))]) hx hb dX3_witness_34 rfl hl (by decide) rfl (fun ls hl => ?_)
    refine lv_aload_n hx hb dX3_witness_35 rfl (lv_at hl 2 rfl) ?_
    refine lv_iload_n hx hb dX3_witness_36 rfl (lv_at hl 1 rfl) ?_
    refine lv_if_ne (tgt := 44) hx hb dX3_witness_37 (by decide) (fun _ => ?_) (fun hc => absurd hc (by decide))
    refine lv_iconst (v := nI 0) hx hb dX3_witness_44 (by decide) ?_
    refine lv_goto (tgt := 49) hx hb dX3_witness_45 (by decide) ?_
    refine va_put (D := D) (ci := 3) (v := .int (nI 0)) (ty := .int) (C := RX3) (T := TX3) (N := 16) hx hb hts hin3 tyX3 tyX3_ok nmX3 hown hK hP hD hS 0 rfl rfl 0 (by decide) kf44 (fun _ h9 => h9) rfl (by decide +kernel) rfl rfl (Nat.le_of_ble_eq_true rfl) dX3_witness_49 (fun H locs hP hD hS => ?_)
    have hP : va_P D vwCl [(hm, .inr (3, [.int (nI 0), .int (nI nd), .ref q0, .ref q1, .int (nI mi), .int (nI ml), .ref q2, .ref q3, .ref q4, .ref q5, .ref q6, .ref q7, .ref q8, .ref q9, .int (nI sp), .int fa])), (q0, .inl (cI, 401, .inl fs)), (q1, .inl (cJ, 25664, .inr (.inl ft))), (q2, .inl (cI, 4, .inl fl)), (q3, .inl (cI, 8, .inl (fun j => nI (gS j)))), (q4, .inl (cI, 8, .inl (fun j => nI (gX j)))), (q5, .inl (cI, 8, .inl (fun j => nI (gT j)))), (q6, .inl (cI, 2, .inl (fun j => nI (gC j)))), (q7, .inl (cI, 32, .inl (fun j => nI (gO j)))), (q8, .inl (cI, 32, .inl fD)), (q9, .inl (cI, 2, .inl (fun j => nI (gE j))))] H := hP
    have hD : va_D A [(hm, .inr (3, [.int (nI 0), .int (nI nd), .ref q0, .ref q1, .int (nI mi), .int (nI ml), .ref q2, .ref q3, .ref q4, .ref q5, .ref q6, .ref q7, .ref q8, .ref q9, .int (nI sp), .int fa])), (q0, .inl (cI, 401, .inl fs)), (q1, .inl (cJ, 25664, .inr (.inl ft))), (q2, .inl (cI, 4, .inl fl)), (q3, .inl (cI, 8, .inl (fun j => nI (gS j)))), (q4, .inl (cI, 8, .inl (fun j => nI (gX j)))), (q5, .inl (cI, 8, .inl (fun j => nI (gT j)))), (q6, .inl (cI, 2, .inl (fun j => nI (gC j)))), (q7, .inl (cI, 32, .inl (fun j => nI (gO j)))), (q8, .inl (cI, 32, .inl fD)), (q9, .inl (cI, 2, .inl (fun j => nI (gE j))))] := hD
    refine lv_aload_n hx hb dX3_witness_52 rfl (lv_at hl 2 rfl) ?_
    refine va_get (D := D) (ci := 3) (v := .int (nI 0)) (C := RX3) (T := TX3) (N := 16) hx hb hts hin3 hown hK hP 0 rfl rfl 0 (by decide) kf44 (fun _ h9 => h9) rfl dX3_witness_53 ?_
    refine lv_if_le (tgt := 61) hx hb dX3_witness_56 (by decide) (fun _ => ?_) (fun hc => absurd hc (by decide))
    refine lv_iload_n hx hb dX3_witness_61 rfl (lv_at hl 1 rfl) ?_
    refine lv_if_eq (tgt := 74) hx hb dX3_witness_62 (by decide) (fun hc => absurd hc (by decide)) (fun _ => ?_)
    refine lv_aload_n hx hb dX3_witness_65 rfl (lv_at hl 2 rfl) ?_
    refine va_get (D := D) (ci := 3) (v := .ref q7) (C := RX3) (T := TX3) (N := 16) hx hb hts hin3 hown hK hP 0 rfl rfl 11 (by decide) kf32 (fun _ h9 => h9) rfl dX3_witness_66 ?_
    refine lv_iload_n hx hb dX3_witness_69 rfl (lv_at hl 3 rfl) ?_
    refine va_iald hx hb hK hP 8 0 rfl rfl (vp_in_nI (by omega) (by omega)) dX3_witness_70 ?_
    refine tp_i (show (fun j => nI (gO j)) (nI t).toNatClampNeg = nI (gO t) from congrArg (fun j => nI (gO j)) (nI_clamp (by omega))) ?_
    refine lv_goto (tgt := 83) hx hb dX3_witness_71 (by decide) ?_
    refine lv_istore (lv' := [(4, .int (nI (gO t))), (3, .int (nI 0)), (2, .int (nI 1)), (0, .ref hm), (1, .int (nI t))]) hx hb dX3_witness_83 hl (by decide) rfl (fun ls hl => ?_)
    refine lv_iload_n hx hb dX3_witness_85 rfl (lv_at hl 2 rfl) ?_
    refine lv_if_eq (tgt := 101) hx hb dX3_witness_86 (by decide) (fun hc => absurd hc (by decide)) (fun _ => ?_)
    refine lv_aload_n hx hb dX3_witness_89 rfl (lv_at hl 3 rfl) ?_
    refine va_get (D := D) (ci := 3) (v := .ref q7) (C := RX3) (T := TX3) (N := 16) hx hb hts hin3 hown hK hP 0 rfl rfl 11 (by decide) kf32 (fun _ h9 => h9) rfl dX3_witness_90 ?_
    refine lv_bipush (v := nI 16) hx hb dX3_witness_93 (by decide) ?_
    refine lv_iload_n hx hb dX3_witness_95 rfl (lv_at hl 4 rfl) ?_
    refine lv_iadd hx hb dX3_witness_96 ?_
    refine tp_i (show (nI 16) + (nI t) = nI (16 + t) from nI_add _ _) ?_
    refine va_iald hx hb hK hP 8 0 rfl rfl (vp_in_nI (by omega) (by omega)) dX3_witness_97 ?_
    refine tp_i (show (fun j => nI (gO j)) (nI (16 + t)).toNatClampNeg = nI (gO (16 + t)) from congrArg (fun j => nI (gO j)) (nI_clamp (by omega))) ?_
    refine lv_goto (tgt := 110) hx hb dX3_witness_98 (by decide) ?_
    refine lv_istore (lv' := [(5, .int (nI (gO (16 + t)))), (4, .int (nI (gO t))), (3, .int (nI 0)), (2, .int (nI 1)), (0, .ref hm), (1, .int (nI t))]) hx hb dX3_witness_110 hl (by decide) rfl (fun ls hl => ?_)
    refine lv_iconst (v := nI 0) hx hb dX3_witness_112 (by decide) ?_
    refine lv_istore (lv' := [(6, .int (nI 0)), (5, .int (nI (gO (16 + t)))), (4, .int (nI (gO t))), (3, .int (nI 0)), (2, .int (nI 1)), (0, .ref hm), (1, .int (nI t))]) hx hb dX3_witness_113 hl (by decide) rfl (fun ls hl => ?_)
    have loop : ∀ (n : Nat) (a : Nat), a ≤ 4096 → wiF ft (gO t) (gO (16 + t)) 4096 0 = wiF ft (gO t) (gO (16 + t)) (4096 - a) a → 4096 - a < n → ∀ (H : Heap) (locs : List Loc) (ls : Array Slot), va_P D vwCl [(hm, .inr (3, [.int (nI 0), .int (nI nd), .ref q0, .ref q1, .int (nI mi), .int (nI ml), .ref q2, .ref q3, .ref q4, .ref q5, .ref q6, .ref q7, .ref q8, .ref q9, .int (nI sp), .int fa])), (q0, .inl (cI, 401, .inl fs)), (q1, .inl (cJ, 25664, .inr (.inl ft))), (q2, .inl (cI, 4, .inl fl)), (q3, .inl (cI, 8, .inl (fun j => nI (gS j)))), (q4, .inl (cI, 8, .inl (fun j => nI (gX j)))), (q5, .inl (cI, 8, .inl (fun j => nI (gT j)))), (q6, .inl (cI, 2, .inl (fun j => nI (gC j)))), (q7, .inl (cI, 32, .inl (fun j => nI (gO j)))), (q8, .inl (cI, 32, .inl fD)), (q9, .inl (cI, 2, .inl (fun j => nI (gE j))))] H → va_D A [(hm, .inr (3, [.int (nI 0), .int (nI nd), .ref q0, .ref q1, .int (nI mi), .int (nI ml), .ref q2, .ref q3, .ref q4, .ref q5, .ref q6, .ref q7, .ref q8, .ref q9, .int (nI sp), .int fa])), (q0, .inl (cI, 401, .inl fs)), (q1, .inl (cJ, 25664, .inr (.inl ft))), (q2, .inl (cI, 4, .inl fl)), (q3, .inl (cI, 8, .inl (fun j => nI (gS j)))), (q4, .inl (cI, 8, .inl (fun j => nI (gX j)))), (q5, .inl (cI, 8, .inl (fun j => nI (gT j)))), (q6, .inl (cI, 2, .inl (fun j => nI (gC j)))), (q7, .inl (cI, 32, .inl (fun j => nI (gO j)))), (q8, .inl (cI, 32, .inl fD)), (q9, .inl (cI, 2, .inl (fun j => nI (gE j))))] → va_S A s.heap H locs → lv_has ls 7 [(6, .int (nI a)), (5, .int (nI (gO (16 + t)))), (4, .int (nI (gO t))), (0, .ref hm), (1, .int (nI t))] → W p l e (headSpec wsX3_witness { frames := 1, cells := 0, slots := 0, locals := 24 }).room s m ([.ref hm, .int (nI t)] : List Value).toArray below meth c H locs 0 0 (MQ below (wx (Su := Unit) D [(cI, .int), (cJ, .long)] A (fun _ => some (.int (wiF ft (gO t) (gO (16 + t)) 4096 0))) (fun _ => True) (fun _ => mW hm q0 q1 q2 q3 q4 q5 q6 q7 q8 q9 cI cJ (nI 0) nd fs ft mi ml fl gS gX gT gC gO fD gE sp fa)) ([.ref hm, .int (nI t)] : List Value).toArray s 0 0 A) (F0 m 115 ls []) := by
      intro n
      induction n with
      | zero => intro a ha hR hM; exact absurd hM (Nat.not_lt_zero _)
      | succ n ih =>
        intro a ha hR hM H locs ls hP hD hS hl
        refine lv_iload hx hb dX3_witness_115 (lv_at hl 0 rfl) ?_
        refine lv_sipush (v := nI 4096) hx hb dX3_witness_117 (by decide) ?_
        refine lv_icmp_ge (tgt := 151) hx hb dX3_witness_120 (by decide) (fun c1 => ?_) (fun c1 => ?_)
        · have c1 : 4096 ≤ a := (nI_leI (by omega) (by omega)).mp c1
          have hi2 : 4096 - a = 0 := by omega
          refine lv_iconst (v := -1) hx hb dX3_witness_151 (by decide) ?_
          exact wr_i (()) hx hb hr hlocks hP hD hS dX3_witness_152 (by rw [hR, hi2]; rfl) (trivial)
        · have c1 : ¬ (4096 ≤ a) := fun h => c1 ((nI_leI (by omega) (by omega)).mpr h)
          obtain ⟨n9, hn9⟩ : ∃ n9, 4096 - a = n9 + 1 := ⟨4095 - a, by omega⟩
          have hn8 : 4096 - (a + 1) = n9 := by omega
          refine lv_aload_n hx hb dX3_witness_123 rfl (lv_at hl 3 rfl) ?_
          refine lv_iload hx hb dX3_witness_124 (lv_at hl 2 rfl) ?_
          refine lv_iload hx hb dX3_witness_126 (lv_at hl 0 rfl) ?_
          refine rd_V (As := [.int (nI (gO t)), .int (nI a)]) (rest := []) ⟨hx, hb, hml, hown, hts⟩ (c_X3_bit l D cI cJ hm q0 q1 q2 q3 q4 q5 q6 q7 q8 q9 (nI 0) nd fs ft mi ml fl gS gX gT gC gO fD gE sp fa (gO t) a (by omega) (by omega)) (cwV 2 hts gX3_witness_X3_bit rfl rfl rfl (by decide +kernel) ⟨Nat.le_of_ble_eq_true rfl, Nat.le_of_ble_eq_true rfl⟩) (rd_pv (ci := 3) (q0 := 0) hK hP rfl rfl) rfl hl.1 rfl (Nat.le_of_ble_eq_true rfl) dX3_witness_128 ⟨by show _ ≤ _; simp only [headSpec]; omega, by show _ ≤ _; simp only [headSpec]; omega⟩ ?_
          refine lv_aload_n hx hb dX3_witness_131 rfl (lv_at hl 3 rfl) ?_
          refine lv_iload hx hb dX3_witness_132 (lv_at hl 1 rfl) ?_
          refine lv_iload hx hb dX3_witness_134 (lv_at hl 0 rfl) ?_
          refine rd_V (As := [.int (nI (gO (16 + t))), .int (nI a)]) (rest := [.int (zI (bt ft (gO t) a))]) ⟨hx, hb, hml, hown, hts⟩ (c_X3_bit l D cI cJ hm q0 q1 q2 q3 q4 q5 q6 q7 q8 q9 (nI 0) nd fs ft mi ml fl gS gX gT gC gO fD gE sp fa (gO (16 + t)) a (by omega) (by omega)) (cwV 2 hts gX3_witness_X3_bit rfl rfl rfl (by decide +kernel) ⟨Nat.le_of_ble_eq_true rfl, Nat.le_of_ble_eq_true rfl⟩) (rd_pv (ci := 3) (q0 := 0) hK hP rfl rfl) rfl hl.1 rfl (Nat.le_of_ble_eq_true rfl) dX3_witness_136 ⟨by show _ ≤ _; simp only [headSpec]; omega, by show _ ≤ _; simp only [headSpec]; omega⟩ ?_
          refine lv_icmp_eq (tgt := 145) hx hb dX3_witness_139 (by decide) (fun c2 => ?_) (fun c2 => ?_)
          · have c2 := zI_inj.mp c2
            refine lv_iinc (v := nI (a + 1)) (lv' := [(6, .int (nI (a + 1))), (5, .int (nI (gO (16 + t)))), (4, .int (nI (gO t))), (0, .ref hm), (1, .int (nI t))]) hx hb dX3_witness_145 hl (k := 0) rfl (nI_add a 1) (by decide) rfl (fun ls hl => ?_)
            refine lv_goto (tgt := 115) hx hb dX3_witness_148 (by decide) ?_
            exact ih (a + 1) (by omega) (by rw [hR, hn9, hn8]; simp [wiF, c2]) (by omega) _ _ ls hP hD hS (lv_sub hl [0, 1, 2, 3, 4] rfl)
          · have c2 : ¬ bt ft (gO t) a = bt ft (gO (16 + t)) a := fun h => c2 (zI_inj.mpr h)
            refine lv_iload hx hb dX3_witness_142 (lv_at hl 0 rfl) ?_
            exact wr_i (()) hx hb hr hlocks hP hD hS dX3_witness_144 (by rw [hR, hn9]; simp [wiF, c2]) (trivial)
    exact loop (4096 - 0 + 1) 0 (by omega) (rfl) (by omega) _ _ ls hP hD hS (lv_sub hl [0, 1, 2, 5, 6] rfl)
set_option maxHeartbeats 4000000 in
set_option maxRecDepth 100000 in
/-- witness of a next -/
theorem w_X3_witnessN (t : Nat) (ht : 100 ≤ t) (ht2 : t < 100 + ml) (hml9 : ml ≤ 4) (hc0 : gC 0 ≤ 16) (hc1 : gC 1 ≤ 16) (hO : ∀ j, j < min (gC 0) (gC 1) → gO j < 2 * nd ∧ gO (16 + j) < 2 * nd) (hX : ∀ j, j < ml → gX j < 2 * nd ∧ gX (4 + j) < 2 * nd) (hnd : nd ≤ 400) (sz : Nat) : Met l yX3_witness wsX3_witness { frames := 1, cells := 0, slots := 0, locals := 24 } (wr_P D [(cI, .int), (cJ, .long)] (mW hm q0 q1 q2 q3 q4 q5 q6 q7 q8 q9 cI cJ th nd fs ft mi ml fl gS gX gT gC gO fD gE sp fa) sz tp [.ref hm, .int (nI t)]) (wx (Su := Unit) D [(cI, .int), (cJ, .long)] (va_A (mW hm q0 q1 q2 q3 q4 q5 q6 q7 q8 q9 cI cJ th nd fs ft mi ml fl gS gX gT gC gO fD gE sp fa) sz) (fun _ => some (.int (wiF ft (gX (t - 100)) (gX (t - 96)) 4096 0))) (fun _ => True) (fun _ => mW hm q0 q1 q2 q3 q4 q5 q6 q7 q8 q9 cI cJ (nI 0) nd fs ft mi ml fl gS gX gT gC gO fD gE sp fa)) 0 0 (va_A (mW hm q0 q1 q2 q3 q4 q5 q6 q7 q8 q9 cI cJ th nd fs ft mi ml fl gS gX gT gC gO fD gE sp fa) sz) := by
  refine Met.ofW (cc := cX3_witness) (maxL := 7) (ret := (some .int)) (by decide) rfl ?_
  intro p e s m args below meth c s₁ B hml hv
  obtain ⟨rfl, hsz, ⟨hP, hK, hD0⟩, hE⟩ := hv
  have hx := B.exec
  have hb := B.bytes
  have hr := B.returns
  have hts := atoms_spec (ws := wsX3_witness) B.pre
  have hown : s.vm.findClass RX3 = some m.cls := findClass_of_methodNamed B.named
  have hlocks := B.notSynchronized
  subst hsz
  have hD := hD0.self (sz := s.heap.size)
  generalize hAe : va_A (mW hm q0 q1 q2 q3 q4 q5 q6 q7 q8 q9 cI cJ th nd fs ft mi ml fl gS gX gT gC gO fD gE sp fa) s.heap.size = A at hD hE ⊢
  have hA : ∀ q : Nat, s.heap.size ≤ q → A q := fun q h => by rw [← hAe]; exact Or.inr h
  have hS : va_S A s.heap s.heap [] := va_S.rf
  have hP : va_P D vwCl [(hm, .inr (3, [.int th, .int (nI nd), .ref q0, .ref q1, .int (nI mi), .int (nI ml), .ref q2, .ref q3, .ref q4, .ref q5, .ref q6, .ref q7, .ref q8, .ref q9, .int (nI sp), .int fa])), (q0, .inl (cI, 401, .inl fs)), (q1, .inl (cJ, 25664, .inr (.inl ft))), (q2, .inl (cI, 4, .inl fl)), (q3, .inl (cI, 8, .inl (fun j => nI (gS j)))), (q4, .inl (cI, 8, .inl (fun j => nI (gX j)))), (q5, .inl (cI, 8, .inl (fun j => nI (gT j)))), (q6, .inl (cI, 2, .inl (fun j => nI (gC j)))), (q7, .inl (cI, 32, .inl (fun j => nI (gO j)))), (q8, .inl (cI, 32, .inl fD)), (q9, .inl (cI, 2, .inl (fun j => nI (gE j))))] s.heap := hP
  have hD : va_D A [(hm, .inr (3, [.int th, .int (nI nd), .ref q0, .ref q1, .int (nI mi), .int (nI ml), .ref q2, .ref q3, .ref q4, .ref q5, .ref q6, .ref q7, .ref q8, .ref q9, .int (nI sp), .int fa])), (q0, .inl (cI, 401, .inl fs)), (q1, .inl (cJ, 25664, .inr (.inl ft))), (q2, .inl (cI, 4, .inl fl)), (q3, .inl (cI, 8, .inl (fun j => nI (gS j)))), (q4, .inl (cI, 8, .inl (fun j => nI (gX j)))), (q5, .inl (cI, 8, .inl (fun j => nI (gT j)))), (q6, .inl (cI, 2, .inl (fun j => nI (gC j)))), (q7, .inl (cI, 32, .inl (fun j => nI (gO j)))), (q8, .inl (cI, 32, .inl fD)), (q9, .inl (cI, 2, .inl (fun j => nI (gE j))))] := hD
  have hl := lv_entry ([.ref hm, .int (nI t)]) (n := 7) (Nat.le_of_ble_eq_true rfl)
  rw [lg_entry_eq]
  generalize (lg_sl ([.ref hm, .int (nI t)]) ++ List.replicate (7 - (lg_sl ([.ref hm, .int (nI t)])).length) Slot.unset).toArray = ls at hl ⊢
  have hl : lv_has ls 7 [(0, .ref hm), (1, .int (nI t))] := hl
  have hin3 : ∀ w ∈ wsX30, w ∈ wsX3_witness := by decide +kernel
  have kf54 := hts (.fieldLink RX3 54 "SweepEqualModel" "latches" "I") (by decide +kernel)
  have kf44 := hts (.fieldLink RX3 44 "SweepEqualModel" "thrown" "I") (by decide +kernel)
  have kf32 := hts (.fieldLink RX3 32 "SweepEqualModel" "outputs" "[I") (by decide +kernel)
  have kf23 := hts (.fieldLink RX3 23 "SweepEqualModel" "nexts" "[I") (by decide +kernel)
  have hx9 := hX (t - 100) (by omega)
  rw [show 4 + (t - 100) = t - 96 by omega] at hx9
  refine lv_iload_n hx hb dX3_witness_0 rfl (lv_at hl 1 rfl) ?_
  refine lv_aload_n hx hb dX3_witness_1 rfl (lv_at hl 0 rfl) ?_
  refine rd_V (As := []) (rest := [.int (nI t)]) ⟨hx, hb, hml, hown, hts⟩ (c_X3_both l D cI cJ hm q0 q1 q2 q3 q4 q5 q6 q7 q8 q9 th nd fs ft mi ml fl gS gX gT gC gO fD gE sp fa hc0 hc1) (cwV 0 hts gX3_witness_X3_both rfl rfl rfl (by decide +kernel) ⟨Nat.le_of_ble_eq_true rfl, Nat.le_of_ble_eq_true rfl⟩) (rd_pv (ci := 3) (q0 := 0) hK hP rfl rfl) rfl hl.1 rfl (Nat.le_of_ble_eq_true rfl) dX3_witness_2 ⟨by show _ ≤ _; simp only [headSpec]; omega, by show _ ≤ _; simp only [headSpec]; omega⟩ ?_
  refine rd_S (As := [.int (nI t), .int (nI (min (gC 0) (gC 1)))]) (rest := []) ⟨hx, hb, hml, hown, hts⟩ (c_X3_isIn l (nI t) (nI (min (gC 0) (gC 1)))) (va_cwS 2 hts gX3_witness_X3_isIn rfl rfl rfl (by decide +kernel) ⟨Nat.le_of_ble_eq_true rfl, Nat.le_of_ble_eq_true rfl⟩) preEq rfl hl.1 rfl (Nat.le_of_ble_eq_true rfl) dX3_witness_5 ⟨by show _ ≤ _; simp only [headSpec]; omega, by show _ ≤ _; simp only [headSpec]; omega⟩ ?_
  refine tp_i (show zI (decide (¬ nI t < 0 ∧ ¬ nI (min (gC 0) (gC 1)) ≤ nI t)) = nI 0 from lit_f (Or.inr ((nI_leI (by omega) (by omega)).mpr (by omega)))) ?_
  refine lv_istore_n (lv' := [(2, .int (nI 0)), (0, .ref hm), (1, .int (nI t))]) hx hb dX3_witness_8 rfl hl (by decide) rfl (fun ls hl => ?_)
  refine lv_iload_n hx hb dX3_witness_9 rfl (lv_at hl 2 rfl) ?_
  refine lv_bipush (v := nI 100) hx hb dX3_witness_10 (by decide) ?_
  refine lv_isub hx hb dX3_witness_12 ?_
  refine tp_i (show (nI t) - (nI 100) = nI (t - 100) from pk_sub (by omega)) ?_
  refine lv_aload_n hx hb dX3_witness_13 rfl (lv_at hl 1 rfl) ?_
  refine va_get (D := D) (ci := 3) (v := .int (nI ml)) (C := RX3) (T := TX3) (N := 16) hx hb hts hin3 hown hK hP 0 rfl rfl 5 (by decide) kf54 (fun _ h9 => h9) rfl dX3_witness_14 ?_
  refine rd_S (As := [.int (nI (t - 100)), .int (nI ml)]) (rest := []) ⟨hx, hb, hml, hown, hts⟩ (c_X3_isIn l (nI (t - 100)) (nI ml)) (va_cwS 2 hts gX3_witness_X3_isIn rfl rfl rfl (by decide +kernel) ⟨Nat.le_of_ble_eq_true rfl, Nat.le_of_ble_eq_true rfl⟩) preEq rfl hl.1 rfl (Nat.le_of_ble_eq_true rfl) dX3_witness_17 ⟨by show _ ≤ _; simp only [headSpec]; omega, by show _ ≤ _; simp only [headSpec]; omega⟩ ?_
  refine tp_i (show zI (decide (¬ nI (t - 100) < 0 ∧ ¬ nI ml ≤ nI (t - 100))) = nI 1 from lit_t (by omega) (by omega)) ?_
  refine lv_if_eq (tgt := 33) hx hb dX3_witness_20 (by decide) (fun hc => absurd hc (by decide)) (fun _ => ?_)
  refine lv_iload_n hx hb dX3_witness_23 rfl (lv_at hl 2 rfl) ?_
  refine lv_bipush (v := nI 100) hx hb dX3_witness_24 (by decide) ?_
  refine lv_icmp_lt (tgt := 33) hx hb dX3_witness_26 (by decide) (fun hc => absurd ((nI_ltI (by omega) (by omega)).mp hc) (by omega)) (fun _ => ?_)
  refine lv_iconst (v := nI 1) hx hb dX3_witness_29 (by decide) ?_
  refine lv_goto (tgt := 34) hx hb dX3_witness_30 (by decide) ?_
  refine lv_istore_n (lv' := [(3, .int (nI 1)), (2, .int (nI 0)), (0, .ref hm), (1, .int (nI t))]) hx hb dX3_witness_34 rfl hl (by decide) rfl (fun ls hl => ?_)
  refine lv_aload_n hx hb dX3_witness_35 rfl (lv_at hl 2 rfl) ?_
  refine lv_iload_n hx hb dX3_witness_36 rfl (lv_at hl 1 rfl) ?_
  refine lv_if_ne (tgt := 44) hx hb dX3_witness_37 (by decide) (fun hc => absurd hc (by decide)) (fun _ => ?_)
  refine lv_iload_n hx hb dX3_witness_40 rfl (lv_at hl 0 rfl) ?_
  refine lv_if_eq (tgt := 48) hx hb dX3_witness_41 (by decide) (fun hc => absurd hc (by decide)) (fun _ => ?_)
  refine lv_iconst (v := nI 0) hx hb dX3_witness_44 (by decide) ?_
  refine lv_goto (tgt := 49) hx hb dX3_witness_45 (by decide) ?_
  refine va_put (D := D) (ci := 3) (v := .int (nI 0)) (ty := .int) (C := RX3) (T := TX3) (N := 16) hx hb hts hin3 tyX3 tyX3_ok nmX3 hown hK hP hD hS 0 rfl rfl 0 (by decide) kf44 (fun _ h9 => h9) rfl (by decide +kernel) rfl rfl (Nat.le_of_ble_eq_true rfl) dX3_witness_49 (fun H locs hP hD hS => ?_)
  have hP : va_P D vwCl [(hm, .inr (3, [.int (nI 0), .int (nI nd), .ref q0, .ref q1, .int (nI mi), .int (nI ml), .ref q2, .ref q3, .ref q4, .ref q5, .ref q6, .ref q7, .ref q8, .ref q9, .int (nI sp), .int fa])), (q0, .inl (cI, 401, .inl fs)), (q1, .inl (cJ, 25664, .inr (.inl ft))), (q2, .inl (cI, 4, .inl fl)), (q3, .inl (cI, 8, .inl (fun j => nI (gS j)))), (q4, .inl (cI, 8, .inl (fun j => nI (gX j)))), (q5, .inl (cI, 8, .inl (fun j => nI (gT j)))), (q6, .inl (cI, 2, .inl (fun j => nI (gC j)))), (q7, .inl (cI, 32, .inl (fun j => nI (gO j)))), (q8, .inl (cI, 32, .inl fD)), (q9, .inl (cI, 2, .inl (fun j => nI (gE j))))] H := hP
  have hD : va_D A [(hm, .inr (3, [.int (nI 0), .int (nI nd), .ref q0, .ref q1, .int (nI mi), .int (nI ml), .ref q2, .ref q3, .ref q4, .ref q5, .ref q6, .ref q7, .ref q8, .ref q9, .int (nI sp), .int fa])), (q0, .inl (cI, 401, .inl fs)), (q1, .inl (cJ, 25664, .inr (.inl ft))), (q2, .inl (cI, 4, .inl fl)), (q3, .inl (cI, 8, .inl (fun j => nI (gS j)))), (q4, .inl (cI, 8, .inl (fun j => nI (gX j)))), (q5, .inl (cI, 8, .inl (fun j => nI (gT j)))), (q6, .inl (cI, 2, .inl (fun j => nI (gC j)))), (q7, .inl (cI, 32, .inl (fun j => nI (gO j)))), (q8, .inl (cI, 32, .inl fD)), (q9, .inl (cI, 2, .inl (fun j => nI (gE j))))] := hD
  refine lv_aload_n hx hb dX3_witness_52 rfl (lv_at hl 2 rfl) ?_
  refine va_get (D := D) (ci := 3) (v := .int (nI 0)) (C := RX3) (T := TX3) (N := 16) hx hb hts hin3 hown hK hP 0 rfl rfl 0 (by decide) kf44 (fun _ h9 => h9) rfl dX3_witness_53 ?_
  refine lv_if_le (tgt := 61) hx hb dX3_witness_56 (by decide) (fun _ => ?_) (fun hc => absurd hc (by decide))
  refine lv_iload_n hx hb dX3_witness_61 rfl (lv_at hl 1 rfl) ?_
  refine lv_if_eq (tgt := 74) hx hb dX3_witness_62 (by decide) (fun _ => ?_) (fun hc => absurd hc (by decide))
  refine lv_aload_n hx hb dX3_witness_74 rfl (lv_at hl 2 rfl) ?_
  refine va_get (D := D) (ci := 3) (v := .ref q4) (C := RX3) (T := TX3) (N := 16) hx hb hts hin3 hown hK hP 0 rfl rfl 8 (by decide) kf23 (fun _ h9 => h9) rfl dX3_witness_75 ?_
  refine lv_iload_n hx hb dX3_witness_78 rfl (lv_at hl 3 rfl) ?_
  refine lv_bipush (v := nI 100) hx hb dX3_witness_79 (by decide) ?_
  refine lv_isub hx hb dX3_witness_81 ?_
  refine tp_i (show (nI t) - (nI 100) = nI (t - 100) from pk_sub (by omega)) ?_
  refine va_iald hx hb hK hP 5 0 rfl rfl (vp_in_nI (by omega) (by omega)) dX3_witness_82 ?_
  refine tp_i (show (fun j => nI (gX j)) (nI (t - 100)).toNatClampNeg = nI (gX (t - 100)) from congrArg (fun j => nI (gX j)) (nI_clamp (by omega))) ?_
  refine lv_istore (lv' := [(4, .int (nI (gX (t - 100)))), (3, .int (nI 1)), (2, .int (nI 0)), (0, .ref hm), (1, .int (nI t))]) hx hb dX3_witness_83 hl (by decide) rfl (fun ls hl => ?_)
  refine lv_iload_n hx hb dX3_witness_85 rfl (lv_at hl 2 rfl) ?_
  refine lv_if_eq (tgt := 101) hx hb dX3_witness_86 (by decide) (fun _ => ?_) (fun hc => absurd hc (by decide))
  refine lv_aload_n hx hb dX3_witness_101 rfl (lv_at hl 3 rfl) ?_
  refine va_get (D := D) (ci := 3) (v := .ref q4) (C := RX3) (T := TX3) (N := 16) hx hb hts hin3 hown hK hP 0 rfl rfl 8 (by decide) kf23 (fun _ h9 => h9) rfl dX3_witness_102 ?_
  refine lv_iload_n hx hb dX3_witness_105 rfl (lv_at hl 4 rfl) ?_
  refine lv_bipush (v := nI 96) hx hb dX3_witness_106 (by decide) ?_
  refine lv_isub hx hb dX3_witness_108 ?_
  refine tp_i (show (nI t) - (nI 96) = nI (t - 96) from pk_sub (by omega)) ?_
  refine va_iald hx hb hK hP 5 0 rfl rfl (vp_in_nI (by omega) (by omega)) dX3_witness_109 ?_
  refine tp_i (show (fun j => nI (gX j)) (nI (t - 96)).toNatClampNeg = nI (gX (t - 96)) from congrArg (fun j => nI (gX j)) (nI_clamp (by omega))) ?_
  refine lv_istore (lv' := [(5, .int (nI (gX (t - 96)))), (4, .int (nI (gX (t - 100)))), (3, .int (nI 1)), (2, .int (nI 0)), (0, .ref hm), (1, .int (nI t))]) hx hb dX3_witness_110 hl (by decide) rfl (fun ls hl => ?_)
  refine lv_iconst (v := nI 0) hx hb dX3_witness_112 (by decide) ?_
  refine lv_istore (lv' := [(6, .int (nI 0)), (5, .int (nI (gX (t - 96)))), (4, .int (nI (gX (t - 100)))), (3, .int (nI 1)), (2, .int (nI 0)), (0, .ref hm), (1, .int (nI t))]) hx hb dX3_witness_113 hl (by decide) rfl (fun ls hl => ?_)
  have loop : ∀ (n : Nat) (a : Nat), a ≤ 4096 → wiF ft (gX (t - 100)) (gX (t - 96)) 4096 0 = wiF ft (gX (t - 100)) (gX (t - 96)) (4096 - a) a → 4096 - a < n → ∀ (H : Heap) (locs : List Loc) (ls : Array Slot), va_P D vwCl [(hm, .inr (3, [.int (nI 0), .int (nI nd), .ref q0, .ref q1, .int (nI mi), .int (nI ml), .ref q2, .ref q3, .ref q4, .ref q5, .ref q6, .ref q7, .ref q8, .ref q9, .int (nI sp), .int fa])), (q0, .inl (cI, 401, .inl fs)), (q1, .inl (cJ, 25664, .inr (.inl ft))), (q2, .inl (cI, 4, .inl fl)), (q3, .inl (cI, 8, .inl (fun j => nI (gS j)))), (q4, .inl (cI, 8, .inl (fun j => nI (gX j)))), (q5, .inl (cI, 8, .inl (fun j => nI (gT j)))), (q6, .inl (cI, 2, .inl (fun j => nI (gC j)))), (q7, .inl (cI, 32, .inl (fun j => nI (gO j)))), (q8, .inl (cI, 32, .inl fD)), (q9, .inl (cI, 2, .inl (fun j => nI (gE j))))] H → va_D A [(hm, .inr (3, [.int (nI 0), .int (nI nd), .ref q0, .ref q1, .int (nI mi), .int (nI ml), .ref q2, .ref q3, .ref q4, .ref q5, .ref q6, .ref q7, .ref q8, .ref q9, .int (nI sp), .int fa])), (q0, .inl (cI, 401, .inl fs)), (q1, .inl (cJ, 25664, .inr (.inl ft))), (q2, .inl (cI, 4, .inl fl)), (q3, .inl (cI, 8, .inl (fun j => nI (gS j)))), (q4, .inl (cI, 8, .inl (fun j => nI (gX j)))), (q5, .inl (cI, 8, .inl (fun j => nI (gT j)))), (q6, .inl (cI, 2, .inl (fun j => nI (gC j)))), (q7, .inl (cI, 32, .inl (fun j => nI (gO j)))), (q8, .inl (cI, 32, .inl fD)), (q9, .inl (cI, 2, .inl (fun j => nI (gE j))))] → va_S A s.heap H locs → lv_has ls 7 [(6, .int (nI a)), (5, .int (nI (gX (t - 96)))), (4, .int (nI (gX (t - 100)))), (0, .ref hm), (1, .int (nI t))] → W p l e (headSpec wsX3_witness { frames := 1, cells := 0, slots := 0, locals := 24 }).room s m ([.ref hm, .int (nI t)] : List Value).toArray below meth c H locs 0 0 (MQ below (wx (Su := Unit) D [(cI, .int), (cJ, .long)] A (fun _ => some (.int (wiF ft (gX (t - 100)) (gX (t - 96)) 4096 0))) (fun _ => True) (fun _ => mW hm q0 q1 q2 q3 q4 q5 q6 q7 q8 q9 cI cJ (nI 0) nd fs ft mi ml fl gS gX gT gC gO fD gE sp fa)) ([.ref hm, .int (nI t)] : List Value).toArray s 0 0 A) (F0 m 115 ls []) := by
    intro n
    induction n with
    | zero => intro a ha hR hM; exact absurd hM (Nat.not_lt_zero _)
    | succ n ih =>
      intro a ha hR hM H locs ls hP hD hS hl
      refine lv_iload hx hb dX3_witness_115 (lv_at hl 0 rfl) ?_
      refine lv_sipush (v := nI 4096) hx hb dX3_witness_117 (by decide) ?_
      refine lv_icmp_ge (tgt := 151) hx hb dX3_witness_120 (by decide) (fun c1 => ?_) (fun c1 => ?_)
      · have c1 : 4096 ≤ a := (nI_leI (by omega) (by omega)).mp c1
        have hi2 : 4096 - a = 0 := by omega
        refine lv_iconst (v := -1) hx hb dX3_witness_151 (by decide) ?_
        exact wr_i (()) hx hb hr hlocks hP hD hS dX3_witness_152 (by rw [hR, hi2]; rfl) (trivial)
      · have c1 : ¬ (4096 ≤ a) := fun h => c1 ((nI_leI (by omega) (by omega)).mpr h)
        obtain ⟨n9, hn9⟩ : ∃ n9, 4096 - a = n9 + 1 := ⟨4095 - a, by omega⟩
        have hn8 : 4096 - (a + 1) = n9 := by omega
        refine lv_aload_n hx hb dX3_witness_123 rfl (lv_at hl 3 rfl) ?_
        refine lv_iload hx hb dX3_witness_124 (lv_at hl 2 rfl) ?_
        refine lv_iload hx hb dX3_witness_126 (lv_at hl 0 rfl) ?_
        refine rd_V (As := [.int (nI (gX (t - 100))), .int (nI a)]) (rest := []) ⟨hx, hb, hml, hown, hts⟩ (c_X3_bit l D cI cJ hm q0 q1 q2 q3 q4 q5 q6 q7 q8 q9 (nI 0) nd fs ft mi ml fl gS gX gT gC gO fD gE sp fa (gX (t - 100)) a (by omega) (by omega)) (cwV 2 hts gX3_witness_X3_bit rfl rfl rfl (by decide +kernel) ⟨Nat.le_of_ble_eq_true rfl, Nat.le_of_ble_eq_true rfl⟩) (rd_pv (ci := 3) (q0 := 0) hK hP rfl rfl) rfl hl.1 rfl (Nat.le_of_ble_eq_true rfl) dX3_witness_128 ⟨by show _ ≤ _; simp only [headSpec]; omega, by show _ ≤ _; simp only [headSpec]; omega⟩ ?_
        refine lv_aload_n hx hb dX3_witness_131 rfl (lv_at hl 3 rfl) ?_
        refine lv_iload hx hb dX3_witness_132 (lv_at hl 1 rfl) ?_
        refine lv_iload hx hb dX3_witness_134 (lv_at hl 0 rfl) ?_
        refine rd_V (As := [.int (nI (gX (t - 96))), .int (nI a)]) (rest := [.int (zI (bt ft (gX (t - 100)) a))]) ⟨hx, hb, hml, hown, hts⟩ (c_X3_bit l D cI cJ hm q0 q1 q2 q3 q4 q5 q6 q7 q8 q9 (nI 0) nd fs ft mi ml fl gS gX gT gC gO fD gE sp fa (gX (t - 96)) a (by omega) (by omega)) (cwV 2 hts gX3_witness_X3_bit rfl rfl rfl (by decide +kernel) ⟨Nat.le_of_ble_eq_true rfl, Nat.le_of_ble_eq_true rfl⟩) (rd_pv (ci := 3) (q0 := 0) hK hP rfl rfl) rfl hl.1 rfl (Nat.le_of_ble_eq_true rfl) dX3_witness_136 ⟨by show _ ≤ _; simp only [headSpec]; omega, by show _ ≤ _; simp only [headSpec]; omega⟩ ?_
        refine lv_icmp_eq (tgt := 145) hx hb dX3_witness_139 (by decide) (fun c2 => ?_) (fun c2 => ?_)
        · have c2 := zI_inj.mp c2
          refine lv_iinc (v := nI (a + 1)) (lv' := [(6, .int (nI (a + 1))), (5, .int (nI (gX (t - 96)))), (4, .int (nI (gX (t - 100)))), (0, .ref hm), (1, .int (nI t))]) hx hb dX3_witness_145 hl (k := 0) rfl (nI_add a 1) (by decide) rfl (fun ls hl => ?_)
          refine lv_goto (tgt := 115) hx hb dX3_witness_148 (by decide) ?_
          exact ih (a + 1) (by omega) (by rw [hR, hn9, hn8]; simp [wiF, c2]) (by omega) _ _ ls hP hD hS (lv_sub hl [0, 1, 2, 3, 4] rfl)
        · have c2 : ¬ bt ft (gX (t - 100)) a = bt ft (gX (t - 96)) a := fun h => c2 (zI_inj.mpr h)
          refine lv_iload hx hb dX3_witness_142 (lv_at hl 0 rfl) ?_
          exact wr_i (()) hx hb hr hlocks hP hD hS dX3_witness_144 (by rw [hR, hn9]; simp [wiF, c2]) (trivial)
  exact loop (4096 - 0 + 1) 0 (by omega) (rfl) (by omega) _ _ ls hP hD hS (lv_sub hl [0, 1, 2, 5, 6] rfl)
set_option maxHeartbeats 4000000 in
set_option maxRecDepth 100000 in
/-- witness: no such thing -/
theorem w_X3_witnessB (x : Int32) (hx1 : x < 0 ∨ nI (min (gC 0) (gC 1)) ≤ x) (hx2 : x < nI 100 ∨ nI (100 + ml) ≤ x) (hml9 : ml ≤ 4) (hc0 : gC 0 ≤ 16) (hc1 : gC 1 ≤ 16) (sz : Nat) : Met l yX3_witness wsX3_witness { frames := 1, cells := 0, slots := 0, locals := 24 } (wr_P D [(cI, .int), (cJ, .long)] (mW hm q0 q1 q2 q3 q4 q5 q6 q7 q8 q9 cI cJ th nd fs ft mi ml fl gS gX gT gC gO fD gE sp fa) sz tp [.ref hm, .int x]) (wx (Su := Unit) D [(cI, .int), (cJ, .long)] (va_A (mW hm q0 q1 q2 q3 q4 q5 q6 q7 q8 q9 cI cJ th nd fs ft mi ml fl gS gX gT gC gO fD gE sp fa) sz) (fun _ => some (.int (nI 0))) (fun _ => True) (fun _ => mW hm q0 q1 q2 q3 q4 q5 q6 q7 q8 q9 cI cJ (nI 1) nd fs ft mi ml fl gS gX gT gC gO fD gE sp fa)) 0 0 (va_A (mW hm q0 q1 q2 q3 q4 q5 q6 q7 q8 q9 cI cJ th nd fs ft mi ml fl gS gX gT gC gO fD gE sp fa) sz) := by
  refine Met.ofW (cc := cX3_witness) (maxL := 7) (ret := (some .int)) (by decide) rfl ?_
  intro p e s m args below meth c s₁ B hml hv
  obtain ⟨rfl, hsz, ⟨hP, hK, hD0⟩, hE⟩ := hv
  have hx := B.exec
  have hb := B.bytes
  have hr := B.returns
  have hts := atoms_spec (ws := wsX3_witness) B.pre
  have hown : s.vm.findClass RX3 = some m.cls := findClass_of_methodNamed B.named
  have hlocks := B.notSynchronized
  subst hsz
  have hD := hD0.self (sz := s.heap.size)
  generalize hAe : va_A (mW hm q0 q1 q2 q3 q4 q5 q6 q7 q8 q9 cI cJ th nd fs ft mi ml fl gS gX gT gC gO fD gE sp fa) s.heap.size = A at hD hE ⊢
  have hA : ∀ q : Nat, s.heap.size ≤ q → A q := fun q h => by rw [← hAe]; exact Or.inr h
  have hS : va_S A s.heap s.heap [] := va_S.rf
  have hP : va_P D vwCl [(hm, .inr (3, [.int th, .int (nI nd), .ref q0, .ref q1, .int (nI mi), .int (nI ml), .ref q2, .ref q3, .ref q4, .ref q5, .ref q6, .ref q7, .ref q8, .ref q9, .int (nI sp), .int fa])), (q0, .inl (cI, 401, .inl fs)), (q1, .inl (cJ, 25664, .inr (.inl ft))), (q2, .inl (cI, 4, .inl fl)), (q3, .inl (cI, 8, .inl (fun j => nI (gS j)))), (q4, .inl (cI, 8, .inl (fun j => nI (gX j)))), (q5, .inl (cI, 8, .inl (fun j => nI (gT j)))), (q6, .inl (cI, 2, .inl (fun j => nI (gC j)))), (q7, .inl (cI, 32, .inl (fun j => nI (gO j)))), (q8, .inl (cI, 32, .inl fD)), (q9, .inl (cI, 2, .inl (fun j => nI (gE j))))] s.heap := hP
  have hD : va_D A [(hm, .inr (3, [.int th, .int (nI nd), .ref q0, .ref q1, .int (nI mi), .int (nI ml), .ref q2, .ref q3, .ref q4, .ref q5, .ref q6, .ref q7, .ref q8, .ref q9, .int (nI sp), .int fa])), (q0, .inl (cI, 401, .inl fs)), (q1, .inl (cJ, 25664, .inr (.inl ft))), (q2, .inl (cI, 4, .inl fl)), (q3, .inl (cI, 8, .inl (fun j => nI (gS j)))), (q4, .inl (cI, 8, .inl (fun j => nI (gX j)))), (q5, .inl (cI, 8, .inl (fun j => nI (gT j)))), (q6, .inl (cI, 2, .inl (fun j => nI (gC j)))), (q7, .inl (cI, 32, .inl (fun j => nI (gO j)))), (q8, .inl (cI, 32, .inl fD)), (q9, .inl (cI, 2, .inl (fun j => nI (gE j))))] := hD
  have hl := lv_entry ([.ref hm, .int x]) (n := 7) (Nat.le_of_ble_eq_true rfl)
  rw [lg_entry_eq]
  generalize (lg_sl ([.ref hm, .int x]) ++ List.replicate (7 - (lg_sl ([.ref hm, .int x])).length) Slot.unset).toArray = ls at hl ⊢
  have hl : lv_has ls 7 [(0, .ref hm), (1, .int x)] := hl
  have hin3 : ∀ w ∈ wsX30, w ∈ wsX3_witness := by decide +kernel
  have kf54 := hts (.fieldLink RX3 54 "SweepEqualModel" "latches" "I") (by decide +kernel)
  have kf44 := hts (.fieldLink RX3 44 "SweepEqualModel" "thrown" "I") (by decide +kernel)
  have kf32 := hts (.fieldLink RX3 32 "SweepEqualModel" "outputs" "[I") (by decide +kernel)
  have kf23 := hts (.fieldLink RX3 23 "SweepEqualModel" "nexts" "[I") (by decide +kernel)
  refine lv_iload_n hx hb dX3_witness_0 rfl (lv_at hl 1 rfl) ?_
  refine lv_aload_n hx hb dX3_witness_1 rfl (lv_at hl 0 rfl) ?_
  refine rd_V (As := []) (rest := [.int x]) ⟨hx, hb, hml, hown, hts⟩ (c_X3_both l D cI cJ hm q0 q1 q2 q3 q4 q5 q6 q7 q8 q9 th nd fs ft mi ml fl gS gX gT gC gO fD gE sp fa hc0 hc1) (cwV 0 hts gX3_witness_X3_both rfl rfl rfl (by decide +kernel) ⟨Nat.le_of_ble_eq_true rfl, Nat.le_of_ble_eq_true rfl⟩) (rd_pv (ci := 3) (q0 := 0) hK hP rfl rfl) rfl hl.1 rfl (Nat.le_of_ble_eq_true rfl) dX3_witness_2 ⟨by show _ ≤ _; simp only [headSpec]; omega, by show _ ≤ _; simp only [headSpec]; omega⟩ ?_
  refine rd_S (As := [.int x, .int (nI (min (gC 0) (gC 1)))]) (rest := []) ⟨hx, hb, hml, hown, hts⟩ (c_X3_isIn l x (nI (min (gC 0) (gC 1)))) (va_cwS 2 hts gX3_witness_X3_isIn rfl rfl rfl (by decide +kernel) ⟨Nat.le_of_ble_eq_true rfl, Nat.le_of_ble_eq_true rfl⟩) preEq rfl hl.1 rfl (Nat.le_of_ble_eq_true rfl) dX3_witness_5 ⟨by show _ ≤ _; simp only [headSpec]; omega, by show _ ≤ _; simp only [headSpec]; omega⟩ ?_
  refine tp_i (show zI (decide (¬ x < 0 ∧ ¬ nI (min (gC 0) (gC 1)) ≤ x)) = nI 0 from lit_f hx1) ?_
  refine lv_istore_n (lv' := [(2, .int (nI 0)), (0, .ref hm), (1, .int x)]) hx hb dX3_witness_8 rfl hl (by decide) rfl (fun ls hl => ?_)
  refine lv_iload_n hx hb dX3_witness_9 rfl (lv_at hl 2 rfl) ?_
  refine lv_bipush (v := nI 100) hx hb dX3_witness_10 (by decide) ?_
  refine lv_isub hx hb dX3_witness_12 ?_
  refine lv_aload_n hx hb dX3_witness_13 rfl (lv_at hl 1 rfl) ?_
  refine va_get (D := D) (ci := 3) (v := .int (nI ml)) (C := RX3) (T := TX3) (N := 16) hx hb hts hin3 hown hK hP 0 rfl rfl 5 (by decide) kf54 (fun _ h9 => h9) rfl dX3_witness_14 ?_
  refine rd_S (As := [.int (x - (nI 100)), .int (nI ml)]) (rest := []) ⟨hx, hb, hml, hown, hts⟩ (c_X3_isIn l (x - nI 100) (nI ml)) (va_cwS 2 hts gX3_witness_X3_isIn rfl rfl rfl (by decide +kernel) ⟨Nat.le_of_ble_eq_true rfl, Nat.le_of_ble_eq_true rfl⟩) preEq rfl hl.1 rfl (Nat.le_of_ble_eq_true rfl) dX3_witness_17 ⟨by show _ ≤ _; simp only [headSpec]; omega, by show _ ≤ _; simp only [headSpec]; omega⟩ ?_
  refine lv_if_eq (tgt := 33) hx hb dX3_witness_20 (by decide) (fun c1 => ?_) (fun c1 => ?_)
  · refine lv_iconst (v := nI 0) hx hb dX3_witness_33 (by decide) ?_
    refine lv_istore_n (lv' := [(3, .int (nI 0)), (2, .int (nI 0)), (0, .ref hm), (1, .int x)]) hx hb dX3_witness_34 rfl hl (by decide) rfl (fun ls hl => ?_)
    refine lv_aload_n hx hb dX3_witness_35 rfl (lv_at hl 2 rfl) ?_
    refine lv_iload_n hx hb dX3_witness_36 rfl (lv_at hl 1 rfl) ?_
    refine lv_if_ne (tgt := 44) hx hb dX3_witness_37 (by decide) (fun hc => absurd hc (by decide)) (fun _ => ?_)
    refine lv_iload_n hx hb dX3_witness_40 rfl (lv_at hl 0 rfl) ?_
    refine lv_if_eq (tgt := 48) hx hb dX3_witness_41 (by decide) (fun _ => ?_) (fun hc => absurd hc (by decide))
    refine lv_iconst (v := nI 1) hx hb dX3_witness_48 (by decide) ?_
    refine va_put (D := D) (ci := 3) (v := .int (nI 1)) (ty := .int) (C := RX3) (T := TX3) (N := 16) hx hb hts hin3 tyX3 tyX3_ok nmX3 hown hK hP hD hS 0 rfl rfl 0 (by decide) kf44 (fun _ h9 => h9) rfl (by decide +kernel) rfl rfl (Nat.le_of_ble_eq_true rfl) dX3_witness_49 (fun H locs hP hD hS => ?_)
    have hP : va_P D vwCl [(hm, .inr (3, [.int (nI 1), .int (nI nd), .ref q0, .ref q1, .int (nI mi), .int (nI ml), .ref q2, .ref q3, .ref q4, .ref q5, .ref q6, .ref q7, .ref q8, .ref q9, .int (nI sp), .int fa])), (q0, .inl (cI, 401, .inl fs)), (q1, .inl (cJ, 25664, .inr (.inl ft))), (q2, .inl (cI, 4, .inl fl)), (q3, .inl (cI, 8, .inl (fun j => nI (gS j)))), (q4, .inl (cI, 8, .inl (fun j => nI (gX j)))), (q5, .inl (cI, 8, .inl (fun j => nI (gT j)))), (q6, .inl (cI, 2, .inl (fun j => nI (gC j)))), (q7, .inl (cI, 32, .inl (fun j => nI (gO j)))), (q8, .inl (cI, 32, .inl fD)), (q9, .inl (cI, 2, .inl (fun j => nI (gE j))))] H := hP
    have hD : va_D A [(hm, .inr (3, [.int (nI 1), .int (nI nd), .ref q0, .ref q1, .int (nI mi), .int (nI ml), .ref q2, .ref q3, .ref q4, .ref q5, .ref q6, .ref q7, .ref q8, .ref q9, .int (nI sp), .int fa])), (q0, .inl (cI, 401, .inl fs)), (q1, .inl (cJ, 25664, .inr (.inl ft))), (q2, .inl (cI, 4, .inl fl)), (q3, .inl (cI, 8, .inl (fun j => nI (gS j)))), (q4, .inl (cI, 8, .inl (fun j => nI (gX j)))), (q5, .inl (cI, 8, .inl (fun j => nI (gT j)))), (q6, .inl (cI, 2, .inl (fun j => nI (gC j)))), (q7, .inl (cI, 32, .inl (fun j => nI (gO j)))), (q8, .inl (cI, 32, .inl fD)), (q9, .inl (cI, 2, .inl (fun j => nI (gE j))))] := hD
    refine lv_aload_n hx hb dX3_witness_52 rfl (lv_at hl 2 rfl) ?_
    refine va_get (D := D) (ci := 3) (v := .int (nI 1)) (C := RX3) (T := TX3) (N := 16) hx hb hts hin3 hown hK hP 0 rfl rfl 0 (by decide) kf44 (fun _ h9 => h9) rfl dX3_witness_53 ?_
    refine lv_if_le (tgt := 61) hx hb dX3_witness_56 (by decide) (fun hc => absurd hc (by decide)) (fun _ => ?_)
    refine lv_iconst (v := nI 0) hx hb dX3_witness_59 (by decide) ?_
    exact wr_i (()) hx hb hr hlocks hP hD hS dX3_witness_60 (rfl) (trivial)
  · refine lv_iload_n hx hb dX3_witness_23 rfl (lv_at hl 2 rfl) ?_
    refine lv_bipush (v := nI 100) hx hb dX3_witness_24 (by decide) ?_
    refine lv_icmp_lt (tgt := 33) hx hb dX3_witness_26 (by decide) (fun c2 => ?_) (fun c2 => ?_)
    · refine lv_iconst (v := nI 0) hx hb dX3_witness_33 (by decide) ?_
      refine lv_istore_n (lv' := [(3, .int (nI 0)), (2, .int (nI 0)), (0, .ref hm), (1, .int x)]) hx hb dX3_witness_34 rfl hl (by decide) rfl (fun ls hl => ?_)
      refine lv_aload_n hx hb dX3_witness_35 rfl (lv_at hl 2 rfl) ?_
      refine lv_iload_n hx hb dX3_witness_36 rfl (lv_at hl 1 rfl) ?_
      refine lv_if_ne (tgt := 44) hx hb dX3_witness_37 (by decide) (fun hc => absurd hc (by decide)) (fun _ => ?_)
      refine lv_iload_n hx hb dX3_witness_40 rfl (lv_at hl 0 rfl) ?_
      refine lv_if_eq (tgt := 48) hx hb dX3_witness_41 (by decide) (fun _ => ?_) (fun hc => absurd hc (by decide))
      refine lv_iconst (v := nI 1) hx hb dX3_witness_48 (by decide) ?_
      refine va_put (D := D) (ci := 3) (v := .int (nI 1)) (ty := .int) (C := RX3) (T := TX3) (N := 16) hx hb hts hin3 tyX3 tyX3_ok nmX3 hown hK hP hD hS 0 rfl rfl 0 (by decide) kf44 (fun _ h9 => h9) rfl (by decide +kernel) rfl rfl (Nat.le_of_ble_eq_true rfl) dX3_witness_49 (fun H locs hP hD hS => ?_)
      have hP : va_P D vwCl [(hm, .inr (3, [.int (nI 1), .int (nI nd), .ref q0, .ref q1, .int (nI mi), .int (nI ml), .ref q2, .ref q3, .ref q4, .ref q5, .ref q6, .ref q7, .ref q8, .ref q9, .int (nI sp), .int fa])), (q0, .inl (cI, 401, .inl fs)), (q1, .inl (cJ, 25664, .inr (.inl ft))), (q2, .inl (cI, 4, .inl fl)), (q3, .inl (cI, 8, .inl (fun j => nI (gS j)))), (q4, .inl (cI, 8, .inl (fun j => nI (gX j)))), (q5, .inl (cI, 8, .inl (fun j => nI (gT j)))), (q6, .inl (cI, 2, .inl (fun j => nI (gC j)))), (q7, .inl (cI, 32, .inl (fun j => nI (gO j)))), (q8, .inl (cI, 32, .inl fD)), (q9, .inl (cI, 2, .inl (fun j => nI (gE j))))] H := hP
      have hD : va_D A [(hm, .inr (3, [.int (nI 1), .int (nI nd), .ref q0, .ref q1, .int (nI mi), .int (nI ml), .ref q2, .ref q3, .ref q4, .ref q5, .ref q6, .ref q7, .ref q8, .ref q9, .int (nI sp), .int fa])), (q0, .inl (cI, 401, .inl fs)), (q1, .inl (cJ, 25664, .inr (.inl ft))), (q2, .inl (cI, 4, .inl fl)), (q3, .inl (cI, 8, .inl (fun j => nI (gS j)))), (q4, .inl (cI, 8, .inl (fun j => nI (gX j)))), (q5, .inl (cI, 8, .inl (fun j => nI (gT j)))), (q6, .inl (cI, 2, .inl (fun j => nI (gC j)))), (q7, .inl (cI, 32, .inl (fun j => nI (gO j)))), (q8, .inl (cI, 32, .inl fD)), (q9, .inl (cI, 2, .inl (fun j => nI (gE j))))] := hD
      refine lv_aload_n hx hb dX3_witness_52 rfl (lv_at hl 2 rfl) ?_
      refine va_get (D := D) (ci := 3) (v := .int (nI 1)) (C := RX3) (T := TX3) (N := 16) hx hb hts hin3 hown hK hP 0 rfl rfl 0 (by decide) kf44 (fun _ h9 => h9) rfl dX3_witness_53 ?_
      refine lv_if_le (tgt := 61) hx hb dX3_witness_56 (by decide) (fun hc => absurd hc (by decide)) (fun _ => ?_)
      refine lv_iconst (v := nI 0) hx hb dX3_witness_59 (by decide) ?_
      exact wr_i (()) hx hb hr hlocks hP hD hS dX3_witness_60 (rfl) (trivial)
    · exact (wit_no hml9 (zd_t c1) c2 hx2).elim
set_option maxHeartbeats 4000000 in
set_option maxRecDepth 100000 in
/-- out: no such side -/
theorem w_X3_outB1 (y sd : Int32) (hs : ¬ (sd = 0 ∨ sd = 1)) (sz : Nat) : Met l yX3_out wsX3_out { frames := 1, cells := 0, slots := 0, locals := 21 } (wr_P D [(cI, .int), (cJ, .long)] (mW hm q0 q1 q2 q3 q4 q5 q6 q7 q8 q9 cI cJ th nd fs ft mi ml fl gS gX gT gC gO fD gE sp fa) sz tp [.ref hm, .int sd, .int y]) (wx (Su := Unit) D [(cI, .int), (cJ, .long)] (va_A (mW hm q0 q1 q2 q3 q4 q5 q6 q7 q8 q9 cI cJ th nd fs ft mi ml fl gS gX gT gC gO fD gE sp fa) sz) (fun _ => some (.int (nI 0))) (fun _ => True) (fun _ => mW hm q0 q1 q2 q3 q4 q5 q6 q7 q8 q9 cI cJ (nI 1) nd fs ft mi ml fl gS gX gT gC gO fD gE sp fa)) 0 0 (va_A (mW hm q0 q1 q2 q3 q4 q5 q6 q7 q8 q9 cI cJ th nd fs ft mi ml fl gS gX gT gC gO fD gE sp fa) sz) := by
  refine Met.ofW (cc := cX3_out) (maxL := 3) (ret := (some .int)) (by decide) rfl ?_
  intro p e s m args below meth c s₁ B hml hv
  obtain ⟨rfl, hsz, ⟨hP, hK, hD0⟩, hE⟩ := hv
  have hx := B.exec
  have hb := B.bytes
  have hr := B.returns
  have hts := atoms_spec (ws := wsX3_out) B.pre
  have hown : s.vm.findClass RX3 = some m.cls := findClass_of_methodNamed B.named
  have hlocks := B.notSynchronized
  subst hsz
  have hD := hD0.self (sz := s.heap.size)
  generalize hAe : va_A (mW hm q0 q1 q2 q3 q4 q5 q6 q7 q8 q9 cI cJ th nd fs ft mi ml fl gS gX gT gC gO fD gE sp fa) s.heap.size = A at hD hE ⊢
  have hA : ∀ q : Nat, s.heap.size ≤ q → A q := fun q h => by rw [← hAe]; exact Or.inr h
  have hS : va_S A s.heap s.heap [] := va_S.rf
  have hP : va_P D vwCl [(hm, .inr (3, [.int th, .int (nI nd), .ref q0, .ref q1, .int (nI mi), .int (nI ml), .ref q2, .ref q3, .ref q4, .ref q5, .ref q6, .ref q7, .ref q8, .ref q9, .int (nI sp), .int fa])), (q0, .inl (cI, 401, .inl fs)), (q1, .inl (cJ, 25664, .inr (.inl ft))), (q2, .inl (cI, 4, .inl fl)), (q3, .inl (cI, 8, .inl (fun j => nI (gS j)))), (q4, .inl (cI, 8, .inl (fun j => nI (gX j)))), (q5, .inl (cI, 8, .inl (fun j => nI (gT j)))), (q6, .inl (cI, 2, .inl (fun j => nI (gC j)))), (q7, .inl (cI, 32, .inl (fun j => nI (gO j)))), (q8, .inl (cI, 32, .inl fD)), (q9, .inl (cI, 2, .inl (fun j => nI (gE j))))] s.heap := hP
  have hD : va_D A [(hm, .inr (3, [.int th, .int (nI nd), .ref q0, .ref q1, .int (nI mi), .int (nI ml), .ref q2, .ref q3, .ref q4, .ref q5, .ref q6, .ref q7, .ref q8, .ref q9, .int (nI sp), .int fa])), (q0, .inl (cI, 401, .inl fs)), (q1, .inl (cJ, 25664, .inr (.inl ft))), (q2, .inl (cI, 4, .inl fl)), (q3, .inl (cI, 8, .inl (fun j => nI (gS j)))), (q4, .inl (cI, 8, .inl (fun j => nI (gX j)))), (q5, .inl (cI, 8, .inl (fun j => nI (gT j)))), (q6, .inl (cI, 2, .inl (fun j => nI (gC j)))), (q7, .inl (cI, 32, .inl (fun j => nI (gO j)))), (q8, .inl (cI, 32, .inl fD)), (q9, .inl (cI, 2, .inl (fun j => nI (gE j))))] := hD
  have hl := lv_entry ([.ref hm, .int sd, .int y]) (n := 3) (Nat.le_of_ble_eq_true rfl)
  rw [lg_entry_eq]
  generalize (lg_sl ([.ref hm, .int sd, .int y]) ++ List.replicate (3 - (lg_sl ([.ref hm, .int sd, .int y])).length) Slot.unset).toArray = ls at hl ⊢
  have hl : lv_has ls 3 [(0, .ref hm), (1, .int sd), (2, .int y)] := hl
  have hin3 : ∀ w ∈ wsX30, w ∈ wsX3_out := by decide +kernel
  have kf29 := hts (.fieldLink RX3 29 "SweepEqualModel" "outputCounts" "[I") (by decide +kernel)
  have kf44 := hts (.fieldLink RX3 44 "SweepEqualModel" "thrown" "I") (by decide +kernel)
  have kf38 := hts (.fieldLink RX3 38 "SweepEqualModel" "toldCounts" "[I") (by decide +kernel)
  have kf35 := hts (.fieldLink RX3 35 "SweepEqualModel" "told" "[I") (by decide +kernel)
  refine lv_aload_n hx hb dX3_out_0 rfl (lv_at hl 0 rfl) ?_
  refine lv_iload_n hx hb dX3_out_1 rfl (lv_at hl 1 rfl) ?_
  refine rd_S (As := [.int sd]) (rest := [.ref hm]) ⟨hx, hb, hml, hown, hts⟩ (c_X3_isSide l sd) (va_cwS 1 hts gX3_out_X3_isSide rfl rfl rfl (by decide +kernel) ⟨Nat.le_of_ble_eq_true rfl, Nat.le_of_ble_eq_true rfl⟩) preEq rfl hl.1 rfl (Nat.le_of_ble_eq_true rfl) dX3_out_2 ⟨by show _ ≤ _; simp only [headSpec]; omega, by show _ ≤ _; simp only [headSpec]; omega⟩ ?_
  refine tp_i (show zI (decide (sd = 0 ∨ sd = 1)) = nI 0 from zd_0 hs) ?_
  refine lv_if_eq (tgt := 25) hx hb dX3_out_5 (by decide) (fun _ => ?_) (fun hc => absurd hc (by decide))
  refine lv_iconst (v := nI 1) hx hb dX3_out_25 (by decide) ?_
  refine va_put (D := D) (ci := 3) (v := .int (nI 1)) (ty := .int) (C := RX3) (T := TX3) (N := 16) hx hb hts hin3 tyX3 tyX3_ok nmX3 hown hK hP hD hS 0 rfl rfl 0 (by decide) kf44 (fun _ h9 => h9) rfl (by decide +kernel) rfl rfl (Nat.le_of_ble_eq_true rfl) dX3_out_26 (fun H locs hP hD hS => ?_)
  have hP : va_P D vwCl [(hm, .inr (3, [.int (nI 1), .int (nI nd), .ref q0, .ref q1, .int (nI mi), .int (nI ml), .ref q2, .ref q3, .ref q4, .ref q5, .ref q6, .ref q7, .ref q8, .ref q9, .int (nI sp), .int fa])), (q0, .inl (cI, 401, .inl fs)), (q1, .inl (cJ, 25664, .inr (.inl ft))), (q2, .inl (cI, 4, .inl fl)), (q3, .inl (cI, 8, .inl (fun j => nI (gS j)))), (q4, .inl (cI, 8, .inl (fun j => nI (gX j)))), (q5, .inl (cI, 8, .inl (fun j => nI (gT j)))), (q6, .inl (cI, 2, .inl (fun j => nI (gC j)))), (q7, .inl (cI, 32, .inl (fun j => nI (gO j)))), (q8, .inl (cI, 32, .inl fD)), (q9, .inl (cI, 2, .inl (fun j => nI (gE j))))] H := hP
  have hD : va_D A [(hm, .inr (3, [.int (nI 1), .int (nI nd), .ref q0, .ref q1, .int (nI mi), .int (nI ml), .ref q2, .ref q3, .ref q4, .ref q5, .ref q6, .ref q7, .ref q8, .ref q9, .int (nI sp), .int fa])), (q0, .inl (cI, 401, .inl fs)), (q1, .inl (cJ, 25664, .inr (.inl ft))), (q2, .inl (cI, 4, .inl fl)), (q3, .inl (cI, 8, .inl (fun j => nI (gS j)))), (q4, .inl (cI, 8, .inl (fun j => nI (gX j)))), (q5, .inl (cI, 8, .inl (fun j => nI (gT j)))), (q6, .inl (cI, 2, .inl (fun j => nI (gC j)))), (q7, .inl (cI, 32, .inl (fun j => nI (gO j)))), (q8, .inl (cI, 32, .inl fD)), (q9, .inl (cI, 2, .inl (fun j => nI (gE j))))] := hD
  refine lv_aload_n hx hb dX3_out_29 rfl (lv_at hl 0 rfl) ?_
  refine va_get (D := D) (ci := 3) (v := .int (nI 1)) (C := RX3) (T := TX3) (N := 16) hx hb hts hin3 hown hK hP 0 rfl rfl 0 (by decide) kf44 (fun _ h9 => h9) rfl dX3_out_30 ?_
  refine lv_if_le (tgt := 40) hx hb dX3_out_33 (by decide) (fun hc => absurd hc (by decide)) (fun _ => ?_)
  refine lv_iconst (v := nI 0) hx hb dX3_out_36 (by decide) ?_
  refine lv_goto (tgt := 65) hx hb dX3_out_37 (by decide) ?_
  exact wr_i (()) hx hb hr hlocks hP hD hS dX3_out_65 (rfl) (trivial)
set_option maxHeartbeats 4000000 in
set_option maxRecDepth 100000 in
/-- state: no such side or latch -/
theorem w_X3_stateB (y sd : Int32) (hb0 : ¬ (sd = 0 ∨ sd = 1) ∨ (y < 0 ∨ nI ml ≤ y)) (sz : Nat) : Met l yX3_state wsX3_state { frames := 1, cells := 0, slots := 0, locals := 21 } (wr_P D [(cI, .int), (cJ, .long)] (mW hm q0 q1 q2 q3 q4 q5 q6 q7 q8 q9 cI cJ th nd fs ft mi ml fl gS gX gT gC gO fD gE sp fa) sz tp [.ref hm, .int sd, .int y]) (wx (Su := Unit) D [(cI, .int), (cJ, .long)] (va_A (mW hm q0 q1 q2 q3 q4 q5 q6 q7 q8 q9 cI cJ th nd fs ft mi ml fl gS gX gT gC gO fD gE sp fa) sz) (fun _ => some (.int (nI 0))) (fun _ => True) (fun _ => mW hm q0 q1 q2 q3 q4 q5 q6 q7 q8 q9 cI cJ (nI 1) nd fs ft mi ml fl gS gX gT gC gO fD gE sp fa)) 0 0 (va_A (mW hm q0 q1 q2 q3 q4 q5 q6 q7 q8 q9 cI cJ th nd fs ft mi ml fl gS gX gT gC gO fD gE sp fa) sz) := by
  refine Met.ofW (cc := cX3_state) (maxL := 3) (ret := (some .int)) (by decide) rfl ?_
  intro p e s m args below meth c s₁ B hml hv
  obtain ⟨rfl, hsz, ⟨hP, hK, hD0⟩, hE⟩ := hv
  have hx := B.exec
  have hb := B.bytes
  have hr := B.returns
  have hts := atoms_spec (ws := wsX3_state) B.pre
  have hown : s.vm.findClass RX3 = some m.cls := findClass_of_methodNamed B.named
  have hlocks := B.notSynchronized
  subst hsz
  have hD := hD0.self (sz := s.heap.size)
  generalize hAe : va_A (mW hm q0 q1 q2 q3 q4 q5 q6 q7 q8 q9 cI cJ th nd fs ft mi ml fl gS gX gT gC gO fD gE sp fa) s.heap.size = A at hD hE ⊢
  have hA : ∀ q : Nat, s.heap.size ≤ q → A q := fun q h => by rw [← hAe]; exact Or.inr h
  have hS : va_S A s.heap s.heap [] := va_S.rf
  have hP : va_P D vwCl [(hm, .inr (3, [.int th, .int (nI nd), .ref q0, .ref q1, .int (nI mi), .int (nI ml), .ref q2, .ref q3, .ref q4, .ref q5, .ref q6, .ref q7, .ref q8, .ref q9, .int (nI sp), .int fa])), (q0, .inl (cI, 401, .inl fs)), (q1, .inl (cJ, 25664, .inr (.inl ft))), (q2, .inl (cI, 4, .inl fl)), (q3, .inl (cI, 8, .inl (fun j => nI (gS j)))), (q4, .inl (cI, 8, .inl (fun j => nI (gX j)))), (q5, .inl (cI, 8, .inl (fun j => nI (gT j)))), (q6, .inl (cI, 2, .inl (fun j => nI (gC j)))), (q7, .inl (cI, 32, .inl (fun j => nI (gO j)))), (q8, .inl (cI, 32, .inl fD)), (q9, .inl (cI, 2, .inl (fun j => nI (gE j))))] s.heap := hP
  have hD : va_D A [(hm, .inr (3, [.int th, .int (nI nd), .ref q0, .ref q1, .int (nI mi), .int (nI ml), .ref q2, .ref q3, .ref q4, .ref q5, .ref q6, .ref q7, .ref q8, .ref q9, .int (nI sp), .int fa])), (q0, .inl (cI, 401, .inl fs)), (q1, .inl (cJ, 25664, .inr (.inl ft))), (q2, .inl (cI, 4, .inl fl)), (q3, .inl (cI, 8, .inl (fun j => nI (gS j)))), (q4, .inl (cI, 8, .inl (fun j => nI (gX j)))), (q5, .inl (cI, 8, .inl (fun j => nI (gT j)))), (q6, .inl (cI, 2, .inl (fun j => nI (gC j)))), (q7, .inl (cI, 32, .inl (fun j => nI (gO j)))), (q8, .inl (cI, 32, .inl fD)), (q9, .inl (cI, 2, .inl (fun j => nI (gE j))))] := hD
  have hl := lv_entry ([.ref hm, .int sd, .int y]) (n := 3) (Nat.le_of_ble_eq_true rfl)
  rw [lg_entry_eq]
  generalize (lg_sl ([.ref hm, .int sd, .int y]) ++ List.replicate (3 - (lg_sl ([.ref hm, .int sd, .int y])).length) Slot.unset).toArray = ls at hl ⊢
  have hl : lv_has ls 3 [(0, .ref hm), (1, .int sd), (2, .int y)] := hl
  have hin3 : ∀ w ∈ wsX30, w ∈ wsX3_state := by decide +kernel
  have kf54 := hts (.fieldLink RX3 54 "SweepEqualModel" "latches" "I") (by decide +kernel)
  have kf44 := hts (.fieldLink RX3 44 "SweepEqualModel" "thrown" "I") (by decide +kernel)
  have kf26 := hts (.fieldLink RX3 26 "SweepEqualModel" "states" "[I") (by decide +kernel)
  refine lv_aload_n hx hb dX3_state_0 rfl (lv_at hl 0 rfl) ?_
  refine lv_iload_n hx hb dX3_state_1 rfl (lv_at hl 1 rfl) ?_
  refine rd_S (As := [.int sd]) (rest := [.ref hm]) ⟨hx, hb, hml, hown, hts⟩ (c_X3_isSide l sd) (va_cwS 1 hts gX3_state_X3_isSide rfl rfl rfl (by decide +kernel) ⟨Nat.le_of_ble_eq_true rfl, Nat.le_of_ble_eq_true rfl⟩) preEq rfl hl.1 rfl (Nat.le_of_ble_eq_true rfl) dX3_state_2 ⟨by show _ ≤ _; simp only [headSpec]; omega, by show _ ≤ _; simp only [headSpec]; omega⟩ ?_
  refine lv_if_eq (tgt := 23) hx hb dX3_state_5 (by decide) (fun c1 => ?_) (fun c1 => ?_)
  · refine lv_iconst (v := nI 1) hx hb dX3_state_23 (by decide) ?_
    refine va_put (D := D) (ci := 3) (v := .int (nI 1)) (ty := .int) (C := RX3) (T := TX3) (N := 16) hx hb hts hin3 tyX3 tyX3_ok nmX3 hown hK hP hD hS 0 rfl rfl 0 (by decide) kf44 (fun _ h9 => h9) rfl (by decide +kernel) rfl rfl (Nat.le_of_ble_eq_true rfl) dX3_state_24 (fun H locs hP hD hS => ?_)
    have hP : va_P D vwCl [(hm, .inr (3, [.int (nI 1), .int (nI nd), .ref q0, .ref q1, .int (nI mi), .int (nI ml), .ref q2, .ref q3, .ref q4, .ref q5, .ref q6, .ref q7, .ref q8, .ref q9, .int (nI sp), .int fa])), (q0, .inl (cI, 401, .inl fs)), (q1, .inl (cJ, 25664, .inr (.inl ft))), (q2, .inl (cI, 4, .inl fl)), (q3, .inl (cI, 8, .inl (fun j => nI (gS j)))), (q4, .inl (cI, 8, .inl (fun j => nI (gX j)))), (q5, .inl (cI, 8, .inl (fun j => nI (gT j)))), (q6, .inl (cI, 2, .inl (fun j => nI (gC j)))), (q7, .inl (cI, 32, .inl (fun j => nI (gO j)))), (q8, .inl (cI, 32, .inl fD)), (q9, .inl (cI, 2, .inl (fun j => nI (gE j))))] H := hP
    have hD : va_D A [(hm, .inr (3, [.int (nI 1), .int (nI nd), .ref q0, .ref q1, .int (nI mi), .int (nI ml), .ref q2, .ref q3, .ref q4, .ref q5, .ref q6, .ref q7, .ref q8, .ref q9, .int (nI sp), .int fa])), (q0, .inl (cI, 401, .inl fs)), (q1, .inl (cJ, 25664, .inr (.inl ft))), (q2, .inl (cI, 4, .inl fl)), (q3, .inl (cI, 8, .inl (fun j => nI (gS j)))), (q4, .inl (cI, 8, .inl (fun j => nI (gX j)))), (q5, .inl (cI, 8, .inl (fun j => nI (gT j)))), (q6, .inl (cI, 2, .inl (fun j => nI (gC j)))), (q7, .inl (cI, 32, .inl (fun j => nI (gO j)))), (q8, .inl (cI, 32, .inl fD)), (q9, .inl (cI, 2, .inl (fun j => nI (gE j))))] := hD
    refine lv_aload_n hx hb dX3_state_27 rfl (lv_at hl 0 rfl) ?_
    refine va_get (D := D) (ci := 3) (v := .int (nI 1)) (C := RX3) (T := TX3) (N := 16) hx hb hts hin3 hown hK hP 0 rfl rfl 0 (by decide) kf44 (fun _ h9 => h9) rfl dX3_state_28 ?_
    refine lv_if_le (tgt := 38) hx hb dX3_state_31 (by decide) (fun hc => absurd hc (by decide)) (fun _ => ?_)
    refine lv_iconst (v := nI 0) hx hb dX3_state_34 (by decide) ?_
    refine lv_goto (tgt := 48) hx hb dX3_state_35 (by decide) ?_
    exact wr_i (()) hx hb hr hlocks hP hD hS dX3_state_48 (rfl) (trivial)
  · refine lv_iload_n hx hb dX3_state_8 rfl (lv_at hl 2 rfl) ?_
    refine lv_aload_n hx hb dX3_state_9 rfl (lv_at hl 0 rfl) ?_
    refine va_get (D := D) (ci := 3) (v := .int (nI ml)) (C := RX3) (T := TX3) (N := 16) hx hb hts hin3 hown hK hP 0 rfl rfl 5 (by decide) kf54 (fun _ h9 => h9) rfl dX3_state_10 ?_
    refine rd_S (As := [.int y, .int (nI ml)]) (rest := [.ref hm]) ⟨hx, hb, hml, hown, hts⟩ (c_X3_isIn l y (nI ml)) (va_cwS 2 hts gX3_state_X3_isIn rfl rfl rfl (by decide +kernel) ⟨Nat.le_of_ble_eq_true rfl, Nat.le_of_ble_eq_true rfl⟩) preEq rfl hl.1 rfl (Nat.le_of_ble_eq_true rfl) dX3_state_13 ⟨by show _ ≤ _; simp only [headSpec]; omega, by show _ ≤ _; simp only [headSpec]; omega⟩ ?_
    refine lv_if_eq (tgt := 23) hx hb dX3_state_16 (by decide) (fun c2 => ?_) (fun c2 => ?_)
    · refine lv_iconst (v := nI 1) hx hb dX3_state_23 (by decide) ?_
      refine va_put (D := D) (ci := 3) (v := .int (nI 1)) (ty := .int) (C := RX3) (T := TX3) (N := 16) hx hb hts hin3 tyX3 tyX3_ok nmX3 hown hK hP hD hS 0 rfl rfl 0 (by decide) kf44 (fun _ h9 => h9) rfl (by decide +kernel) rfl rfl (Nat.le_of_ble_eq_true rfl) dX3_state_24 (fun H locs hP hD hS => ?_)
      have hP : va_P D vwCl [(hm, .inr (3, [.int (nI 1), .int (nI nd), .ref q0, .ref q1, .int (nI mi), .int (nI ml), .ref q2, .ref q3, .ref q4, .ref q5, .ref q6, .ref q7, .ref q8, .ref q9, .int (nI sp), .int fa])), (q0, .inl (cI, 401, .inl fs)), (q1, .inl (cJ, 25664, .inr (.inl ft))), (q2, .inl (cI, 4, .inl fl)), (q3, .inl (cI, 8, .inl (fun j => nI (gS j)))), (q4, .inl (cI, 8, .inl (fun j => nI (gX j)))), (q5, .inl (cI, 8, .inl (fun j => nI (gT j)))), (q6, .inl (cI, 2, .inl (fun j => nI (gC j)))), (q7, .inl (cI, 32, .inl (fun j => nI (gO j)))), (q8, .inl (cI, 32, .inl fD)), (q9, .inl (cI, 2, .inl (fun j => nI (gE j))))] H := hP
      have hD : va_D A [(hm, .inr (3, [.int (nI 1), .int (nI nd), .ref q0, .ref q1, .int (nI mi), .int (nI ml), .ref q2, .ref q3, .ref q4, .ref q5, .ref q6, .ref q7, .ref q8, .ref q9, .int (nI sp), .int fa])), (q0, .inl (cI, 401, .inl fs)), (q1, .inl (cJ, 25664, .inr (.inl ft))), (q2, .inl (cI, 4, .inl fl)), (q3, .inl (cI, 8, .inl (fun j => nI (gS j)))), (q4, .inl (cI, 8, .inl (fun j => nI (gX j)))), (q5, .inl (cI, 8, .inl (fun j => nI (gT j)))), (q6, .inl (cI, 2, .inl (fun j => nI (gC j)))), (q7, .inl (cI, 32, .inl (fun j => nI (gO j)))), (q8, .inl (cI, 32, .inl fD)), (q9, .inl (cI, 2, .inl (fun j => nI (gE j))))] := hD
      refine lv_aload_n hx hb dX3_state_27 rfl (lv_at hl 0 rfl) ?_
      refine va_get (D := D) (ci := 3) (v := .int (nI 1)) (C := RX3) (T := TX3) (N := 16) hx hb hts hin3 hown hK hP 0 rfl rfl 0 (by decide) kf44 (fun _ h9 => h9) rfl dX3_state_28 ?_
      refine lv_if_le (tgt := 38) hx hb dX3_state_31 (by decide) (fun hc => absurd hc (by decide)) (fun _ => ?_)
      refine lv_iconst (v := nI 0) hx hb dX3_state_34 (by decide) ?_
      refine lv_goto (tgt := 48) hx hb dX3_state_35 (by decide) ?_
      exact wr_i (()) hx hb hr hlocks hP hD hS dX3_state_48 (rfl) (trivial)
    · exact (hb0.elim (fun q => q (zd_t c1)) (fun q => q.elim (zd_t c2).1 (zd_t c2).2)).elim
set_option maxHeartbeats 4000000 in
set_option maxRecDepth 100000 in
/-- out: no such output of side 0 -/
theorem w_X3_outB2_0 (y : Int32) (hb0 : y < 0 ∨ nI (gC 0) ≤ y) (sz : Nat) : Met l yX3_out wsX3_out { frames := 1, cells := 0, slots := 0, locals := 21 } (wr_P D [(cI, .int), (cJ, .long)] (mW hm q0 q1 q2 q3 q4 q5 q6 q7 q8 q9 cI cJ th nd fs ft mi ml fl gS gX gT gC gO fD gE sp fa) sz tp [.ref hm, .int (nI 0), .int y]) (wx (Su := Unit) D [(cI, .int), (cJ, .long)] (va_A (mW hm q0 q1 q2 q3 q4 q5 q6 q7 q8 q9 cI cJ th nd fs ft mi ml fl gS gX gT gC gO fD gE sp fa) sz) (fun _ => some (.int (nI 0))) (fun _ => True) (fun _ => mW hm q0 q1 q2 q3 q4 q5 q6 q7 q8 q9 cI cJ (nI 1) nd fs ft mi ml fl gS gX gT gC gO fD gE sp fa)) 0 0 (va_A (mW hm q0 q1 q2 q3 q4 q5 q6 q7 q8 q9 cI cJ th nd fs ft mi ml fl gS gX gT gC gO fD gE sp fa) sz) := by
  refine Met.ofW (cc := cX3_out) (maxL := 3) (ret := (some .int)) (by decide) rfl ?_
  intro p e s m args below meth c s₁ B hml hv
  obtain ⟨rfl, hsz, ⟨hP, hK, hD0⟩, hE⟩ := hv
  have hx := B.exec
  have hb := B.bytes
  have hr := B.returns
  have hts := atoms_spec (ws := wsX3_out) B.pre
  have hown : s.vm.findClass RX3 = some m.cls := findClass_of_methodNamed B.named
  have hlocks := B.notSynchronized
  subst hsz
  have hD := hD0.self (sz := s.heap.size)
  generalize hAe : va_A (mW hm q0 q1 q2 q3 q4 q5 q6 q7 q8 q9 cI cJ th nd fs ft mi ml fl gS gX gT gC gO fD gE sp fa) s.heap.size = A at hD hE ⊢
  have hA : ∀ q : Nat, s.heap.size ≤ q → A q := fun q h => by rw [← hAe]; exact Or.inr h
  have hS : va_S A s.heap s.heap [] := va_S.rf
  have hP : va_P D vwCl [(hm, .inr (3, [.int th, .int (nI nd), .ref q0, .ref q1, .int (nI mi), .int (nI ml), .ref q2, .ref q3, .ref q4, .ref q5, .ref q6, .ref q7, .ref q8, .ref q9, .int (nI sp), .int fa])), (q0, .inl (cI, 401, .inl fs)), (q1, .inl (cJ, 25664, .inr (.inl ft))), (q2, .inl (cI, 4, .inl fl)), (q3, .inl (cI, 8, .inl (fun j => nI (gS j)))), (q4, .inl (cI, 8, .inl (fun j => nI (gX j)))), (q5, .inl (cI, 8, .inl (fun j => nI (gT j)))), (q6, .inl (cI, 2, .inl (fun j => nI (gC j)))), (q7, .inl (cI, 32, .inl (fun j => nI (gO j)))), (q8, .inl (cI, 32, .inl fD)), (q9, .inl (cI, 2, .inl (fun j => nI (gE j))))] s.heap := hP
  have hD : va_D A [(hm, .inr (3, [.int th, .int (nI nd), .ref q0, .ref q1, .int (nI mi), .int (nI ml), .ref q2, .ref q3, .ref q4, .ref q5, .ref q6, .ref q7, .ref q8, .ref q9, .int (nI sp), .int fa])), (q0, .inl (cI, 401, .inl fs)), (q1, .inl (cJ, 25664, .inr (.inl ft))), (q2, .inl (cI, 4, .inl fl)), (q3, .inl (cI, 8, .inl (fun j => nI (gS j)))), (q4, .inl (cI, 8, .inl (fun j => nI (gX j)))), (q5, .inl (cI, 8, .inl (fun j => nI (gT j)))), (q6, .inl (cI, 2, .inl (fun j => nI (gC j)))), (q7, .inl (cI, 32, .inl (fun j => nI (gO j)))), (q8, .inl (cI, 32, .inl fD)), (q9, .inl (cI, 2, .inl (fun j => nI (gE j))))] := hD
  have hl := lv_entry ([.ref hm, .int (nI 0), .int y]) (n := 3) (Nat.le_of_ble_eq_true rfl)
  rw [lg_entry_eq]
  generalize (lg_sl ([.ref hm, .int (nI 0), .int y]) ++ List.replicate (3 - (lg_sl ([.ref hm, .int (nI 0), .int y])).length) Slot.unset).toArray = ls at hl ⊢
  have hl : lv_has ls 3 [(0, .ref hm), (1, .int (nI 0)), (2, .int y)] := hl
  have hin3 : ∀ w ∈ wsX30, w ∈ wsX3_out := by decide +kernel
  have kf29 := hts (.fieldLink RX3 29 "SweepEqualModel" "outputCounts" "[I") (by decide +kernel)
  have kf44 := hts (.fieldLink RX3 44 "SweepEqualModel" "thrown" "I") (by decide +kernel)
  have kf38 := hts (.fieldLink RX3 38 "SweepEqualModel" "toldCounts" "[I") (by decide +kernel)
  have kf35 := hts (.fieldLink RX3 35 "SweepEqualModel" "told" "[I") (by decide +kernel)
  refine lv_aload_n hx hb dX3_out_0 rfl (lv_at hl 0 rfl) ?_
  refine lv_iload_n hx hb dX3_out_1 rfl (lv_at hl 1 rfl) ?_
  refine rd_S (As := [.int (nI 0)]) (rest := [.ref hm]) ⟨hx, hb, hml, hown, hts⟩ (c_X3_isSide l (nI 0)) (va_cwS 1 hts gX3_out_X3_isSide rfl rfl rfl (by decide +kernel) ⟨Nat.le_of_ble_eq_true rfl, Nat.le_of_ble_eq_true rfl⟩) preEq rfl hl.1 rfl (Nat.le_of_ble_eq_true rfl) dX3_out_2 ⟨by show _ ≤ _; simp only [headSpec]; omega, by show _ ≤ _; simp only [headSpec]; omega⟩ ?_
  refine tp_i (show zI (decide (nI 0 = 0 ∨ nI 0 = 1)) = nI 1 from by decide) ?_
  refine lv_if_eq (tgt := 25) hx hb dX3_out_5 (by decide) (fun hc => absurd hc (by decide)) (fun _ => ?_)
  refine lv_iload_n hx hb dX3_out_8 rfl (lv_at hl 2 rfl) ?_
  refine lv_aload_n hx hb dX3_out_9 rfl (lv_at hl 0 rfl) ?_
  refine va_get (D := D) (ci := 3) (v := .ref q6) (C := RX3) (T := TX3) (N := 16) hx hb hts hin3 hown hK hP 0 rfl rfl 10 (by decide) kf29 (fun _ h9 => h9) rfl dX3_out_10 ?_
  refine lv_iload_n hx hb dX3_out_13 rfl (lv_at hl 1 rfl) ?_
  refine va_iald hx hb hK hP 7 0 rfl rfl (vp_in_nI (by omega) (by omega)) dX3_out_14 ?_
  refine tp_i (show (fun j => nI (gC j)) (nI 0).toNatClampNeg = nI (gC 0) from congrArg (fun j => nI (gC j)) (nI_clamp (by omega))) ?_
  refine rd_S (As := [.int y, .int (nI (gC 0))]) (rest := [.ref hm]) ⟨hx, hb, hml, hown, hts⟩ (c_X3_isIn l y (nI (gC 0))) (va_cwS 2 hts gX3_out_X3_isIn rfl rfl rfl (by decide +kernel) ⟨Nat.le_of_ble_eq_true rfl, Nat.le_of_ble_eq_true rfl⟩) preEq rfl hl.1 rfl (Nat.le_of_ble_eq_true rfl) dX3_out_15 ⟨by show _ ≤ _; simp only [headSpec]; omega, by show _ ≤ _; simp only [headSpec]; omega⟩ ?_
  refine tp_i (show zI (decide (¬ y < 0 ∧ ¬ nI (gC 0) ≤ y)) = nI 0 from lit_f hb0) ?_
  refine lv_if_eq (tgt := 25) hx hb dX3_out_18 (by decide) (fun _ => ?_) (fun hc => absurd hc (by decide))
  refine lv_iconst (v := nI 1) hx hb dX3_out_25 (by decide) ?_
  refine va_put (D := D) (ci := 3) (v := .int (nI 1)) (ty := .int) (C := RX3) (T := TX3) (N := 16) hx hb hts hin3 tyX3 tyX3_ok nmX3 hown hK hP hD hS 0 rfl rfl 0 (by decide) kf44 (fun _ h9 => h9) rfl (by decide +kernel) rfl rfl (Nat.le_of_ble_eq_true rfl) dX3_out_26 (fun H locs hP hD hS => ?_)
  have hP : va_P D vwCl [(hm, .inr (3, [.int (nI 1), .int (nI nd), .ref q0, .ref q1, .int (nI mi), .int (nI ml), .ref q2, .ref q3, .ref q4, .ref q5, .ref q6, .ref q7, .ref q8, .ref q9, .int (nI sp), .int fa])), (q0, .inl (cI, 401, .inl fs)), (q1, .inl (cJ, 25664, .inr (.inl ft))), (q2, .inl (cI, 4, .inl fl)), (q3, .inl (cI, 8, .inl (fun j => nI (gS j)))), (q4, .inl (cI, 8, .inl (fun j => nI (gX j)))), (q5, .inl (cI, 8, .inl (fun j => nI (gT j)))), (q6, .inl (cI, 2, .inl (fun j => nI (gC j)))), (q7, .inl (cI, 32, .inl (fun j => nI (gO j)))), (q8, .inl (cI, 32, .inl fD)), (q9, .inl (cI, 2, .inl (fun j => nI (gE j))))] H := hP
  have hD : va_D A [(hm, .inr (3, [.int (nI 1), .int (nI nd), .ref q0, .ref q1, .int (nI mi), .int (nI ml), .ref q2, .ref q3, .ref q4, .ref q5, .ref q6, .ref q7, .ref q8, .ref q9, .int (nI sp), .int fa])), (q0, .inl (cI, 401, .inl fs)), (q1, .inl (cJ, 25664, .inr (.inl ft))), (q2, .inl (cI, 4, .inl fl)), (q3, .inl (cI, 8, .inl (fun j => nI (gS j)))), (q4, .inl (cI, 8, .inl (fun j => nI (gX j)))), (q5, .inl (cI, 8, .inl (fun j => nI (gT j)))), (q6, .inl (cI, 2, .inl (fun j => nI (gC j)))), (q7, .inl (cI, 32, .inl (fun j => nI (gO j)))), (q8, .inl (cI, 32, .inl fD)), (q9, .inl (cI, 2, .inl (fun j => nI (gE j))))] := hD
  refine lv_aload_n hx hb dX3_out_29 rfl (lv_at hl 0 rfl) ?_
  refine va_get (D := D) (ci := 3) (v := .int (nI 1)) (C := RX3) (T := TX3) (N := 16) hx hb hts hin3 hown hK hP 0 rfl rfl 0 (by decide) kf44 (fun _ h9 => h9) rfl dX3_out_30 ?_
  refine lv_if_le (tgt := 40) hx hb dX3_out_33 (by decide) (fun hc => absurd hc (by decide)) (fun _ => ?_)
  refine lv_iconst (v := nI 0) hx hb dX3_out_36 (by decide) ?_
  refine lv_goto (tgt := 65) hx hb dX3_out_37 (by decide) ?_
  exact wr_i (()) hx hb hr hlocks hP hD hS dX3_out_65 (rfl) (trivial)
set_option maxHeartbeats 4000000 in
set_option maxRecDepth 100000 in
/-- out of side 0 -/
theorem w_X3_out0 (j : Nat) (hj : j < gC 0) (hc0 : gC 0 ≤ 16) (he0 : gE 0 ≤ 16) (sz : Nat) : Met l yX3_out wsX3_out { frames := 1, cells := 0, slots := 0, locals := 21 } (wr_P D [(cI, .int), (cJ, .long)] (mW hm q0 q1 q2 q3 q4 q5 q6 q7 q8 q9 cI cJ th nd fs ft mi ml fl gS gX gT gC gO fD gE sp fa) sz tp [.ref hm, .int (nI 0), .int (nI j)]) (wx (Su := Unit) D [(cI, .int), (cJ, .long)] (va_A (mW hm q0 q1 q2 q3 q4 q5 q6 q7 q8 q9 cI cJ th nd fs ft mi ml fl gS gX gT gC gO fD gE sp fa) sz) (fun _ => some (.int (if j < gE 0 then fD (j) else -1))) (fun _ => True) (fun _ => mW hm q0 q1 q2 q3 q4 q5 q6 q7 q8 q9 cI cJ (nI 0) nd fs ft mi ml fl gS gX gT gC gO fD gE sp fa)) 0 0 (va_A (mW hm q0 q1 q2 q3 q4 q5 q6 q7 q8 q9 cI cJ th nd fs ft mi ml fl gS gX gT gC gO fD gE sp fa) sz) := by
  refine Met.ofW (cc := cX3_out) (maxL := 3) (ret := (some .int)) (by decide) rfl ?_
  intro p e s m args below meth c s₁ B hml hv
  obtain ⟨rfl, hsz, ⟨hP, hK, hD0⟩, hE⟩ := hv
  have hx := B.exec
  have hb := B.bytes
  have hr := B.returns
  have hts := atoms_spec (ws := wsX3_out) B.pre
  have hown : s.vm.findClass RX3 = some m.cls := findClass_of_methodNamed B.named
  have hlocks := B.notSynchronized
  subst hsz
  have hD := hD0.self (sz := s.heap.size)
  generalize hAe : va_A (mW hm q0 q1 q2 q3 q4 q5 q6 q7 q8 q9 cI cJ th nd fs ft mi ml fl gS gX gT gC gO fD gE sp fa) s.heap.size = A at hD hE ⊢
  have hA : ∀ q : Nat, s.heap.size ≤ q → A q := fun q h => by rw [← hAe]; exact Or.inr h
  have hS : va_S A s.heap s.heap [] := va_S.rf
  have hP : va_P D vwCl [(hm, .inr (3, [.int th, .int (nI nd), .ref q0, .ref q1, .int (nI mi), .int (nI ml), .ref q2, .ref q3, .ref q4, .ref q5, .ref q6, .ref q7, .ref q8, .ref q9, .int (nI sp), .int fa])), (q0, .inl (cI, 401, .inl fs)), (q1, .inl (cJ, 25664, .inr (.inl ft))), (q2, .inl (cI, 4, .inl fl)), (q3, .inl (cI, 8, .inl (fun j => nI (gS j)))), (q4, .inl (cI, 8, .inl (fun j => nI (gX j)))), (q5, .inl (cI, 8, .inl (fun j => nI (gT j)))), (q6, .inl (cI, 2, .inl (fun j => nI (gC j)))), (q7, .inl (cI, 32, .inl (fun j => nI (gO j)))), (q8, .inl (cI, 32, .inl fD)), (q9, .inl (cI, 2, .inl (fun j => nI (gE j))))] s.heap := hP
  have hD : va_D A [(hm, .inr (3, [.int th, .int (nI nd), .ref q0, .ref q1, .int (nI mi), .int (nI ml), .ref q2, .ref q3, .ref q4, .ref q5, .ref q6, .ref q7, .ref q8, .ref q9, .int (nI sp), .int fa])), (q0, .inl (cI, 401, .inl fs)), (q1, .inl (cJ, 25664, .inr (.inl ft))), (q2, .inl (cI, 4, .inl fl)), (q3, .inl (cI, 8, .inl (fun j => nI (gS j)))), (q4, .inl (cI, 8, .inl (fun j => nI (gX j)))), (q5, .inl (cI, 8, .inl (fun j => nI (gT j)))), (q6, .inl (cI, 2, .inl (fun j => nI (gC j)))), (q7, .inl (cI, 32, .inl (fun j => nI (gO j)))), (q8, .inl (cI, 32, .inl fD)), (q9, .inl (cI, 2, .inl (fun j => nI (gE j))))] := hD
  have hl := lv_entry ([.ref hm, .int (nI 0), .int (nI j)]) (n := 3) (Nat.le_of_ble_eq_true rfl)
  rw [lg_entry_eq]
  generalize (lg_sl ([.ref hm, .int (nI 0), .int (nI j)]) ++ List.replicate (3 - (lg_sl ([.ref hm, .int (nI 0), .int (nI j)])).length) Slot.unset).toArray = ls at hl ⊢
  have hl : lv_has ls 3 [(0, .ref hm), (1, .int (nI 0)), (2, .int (nI j))] := hl
  have hin3 : ∀ w ∈ wsX30, w ∈ wsX3_out := by decide +kernel
  have kf29 := hts (.fieldLink RX3 29 "SweepEqualModel" "outputCounts" "[I") (by decide +kernel)
  have kf44 := hts (.fieldLink RX3 44 "SweepEqualModel" "thrown" "I") (by decide +kernel)
  have kf38 := hts (.fieldLink RX3 38 "SweepEqualModel" "toldCounts" "[I") (by decide +kernel)
  have kf35 := hts (.fieldLink RX3 35 "SweepEqualModel" "told" "[I") (by decide +kernel)
  refine lv_aload_n hx hb dX3_out_0 rfl (lv_at hl 0 rfl) ?_
  refine lv_iload_n hx hb dX3_out_1 rfl (lv_at hl 1 rfl) ?_
  refine rd_S (As := [.int (nI 0)]) (rest := [.ref hm]) ⟨hx, hb, hml, hown, hts⟩ (c_X3_isSide l (nI 0)) (va_cwS 1 hts gX3_out_X3_isSide rfl rfl rfl (by decide +kernel) ⟨Nat.le_of_ble_eq_true rfl, Nat.le_of_ble_eq_true rfl⟩) preEq rfl hl.1 rfl (Nat.le_of_ble_eq_true rfl) dX3_out_2 ⟨by show _ ≤ _; simp only [headSpec]; omega, by show _ ≤ _; simp only [headSpec]; omega⟩ ?_
  refine tp_i (show zI (decide (nI 0 = 0 ∨ nI 0 = 1)) = nI 1 from by decide) ?_
  refine lv_if_eq (tgt := 25) hx hb dX3_out_5 (by decide) (fun hc => absurd hc (by decide)) (fun _ => ?_)
  refine lv_iload_n hx hb dX3_out_8 rfl (lv_at hl 2 rfl) ?_
  refine lv_aload_n hx hb dX3_out_9 rfl (lv_at hl 0 rfl) ?_
  refine va_get (D := D) (ci := 3) (v := .ref q6) (C := RX3) (T := TX3) (N := 16) hx hb hts hin3 hown hK hP 0 rfl rfl 10 (by decide) kf29 (fun _ h9 => h9) rfl dX3_out_10 ?_
  refine lv_iload_n hx hb dX3_out_13 rfl (lv_at hl 1 rfl) ?_
  refine va_iald hx hb hK hP 7 0 rfl rfl (vp_in_nI (by omega) (by omega)) dX3_out_14 ?_
  refine tp_i (show (fun j => nI (gC j)) (nI 0).toNatClampNeg = nI (gC 0) from congrArg (fun j => nI (gC j)) (nI_clamp (by omega))) ?_
  refine rd_S (As := [.int (nI j), .int (nI (gC 0))]) (rest := [.ref hm]) ⟨hx, hb, hml, hown, hts⟩ (c_X3_isIn l (nI j) (nI (gC 0))) (va_cwS 2 hts gX3_out_X3_isIn rfl rfl rfl (by decide +kernel) ⟨Nat.le_of_ble_eq_true rfl, Nat.le_of_ble_eq_true rfl⟩) preEq rfl hl.1 rfl (Nat.le_of_ble_eq_true rfl) dX3_out_15 ⟨by show _ ≤ _; simp only [headSpec]; omega, by show _ ≤ _; simp only [headSpec]; omega⟩ ?_
  refine tp_i (show zI (decide (¬ nI j < 0 ∧ ¬ nI (gC 0) ≤ nI j)) = nI 1 from lit_t hj (by omega)) ?_
  refine lv_if_eq (tgt := 25) hx hb dX3_out_18 (by decide) (fun hc => absurd hc (by decide)) (fun _ => ?_)
  refine lv_iconst (v := nI 0) hx hb dX3_out_21 (by decide) ?_
  refine lv_goto (tgt := 26) hx hb dX3_out_22 (by decide) ?_
  refine va_put (D := D) (ci := 3) (v := .int (nI 0)) (ty := .int) (C := RX3) (T := TX3) (N := 16) hx hb hts hin3 tyX3 tyX3_ok nmX3 hown hK hP hD hS 0 rfl rfl 0 (by decide) kf44 (fun _ h9 => h9) rfl (by decide +kernel) rfl rfl (Nat.le_of_ble_eq_true rfl) dX3_out_26 (fun H locs hP hD hS => ?_)
  have hP : va_P D vwCl [(hm, .inr (3, [.int (nI 0), .int (nI nd), .ref q0, .ref q1, .int (nI mi), .int (nI ml), .ref q2, .ref q3, .ref q4, .ref q5, .ref q6, .ref q7, .ref q8, .ref q9, .int (nI sp), .int fa])), (q0, .inl (cI, 401, .inl fs)), (q1, .inl (cJ, 25664, .inr (.inl ft))), (q2, .inl (cI, 4, .inl fl)), (q3, .inl (cI, 8, .inl (fun j => nI (gS j)))), (q4, .inl (cI, 8, .inl (fun j => nI (gX j)))), (q5, .inl (cI, 8, .inl (fun j => nI (gT j)))), (q6, .inl (cI, 2, .inl (fun j => nI (gC j)))), (q7, .inl (cI, 32, .inl (fun j => nI (gO j)))), (q8, .inl (cI, 32, .inl fD)), (q9, .inl (cI, 2, .inl (fun j => nI (gE j))))] H := hP
  have hD : va_D A [(hm, .inr (3, [.int (nI 0), .int (nI nd), .ref q0, .ref q1, .int (nI mi), .int (nI ml), .ref q2, .ref q3, .ref q4, .ref q5, .ref q6, .ref q7, .ref q8, .ref q9, .int (nI sp), .int fa])), (q0, .inl (cI, 401, .inl fs)), (q1, .inl (cJ, 25664, .inr (.inl ft))), (q2, .inl (cI, 4, .inl fl)), (q3, .inl (cI, 8, .inl (fun j => nI (gS j)))), (q4, .inl (cI, 8, .inl (fun j => nI (gX j)))), (q5, .inl (cI, 8, .inl (fun j => nI (gT j)))), (q6, .inl (cI, 2, .inl (fun j => nI (gC j)))), (q7, .inl (cI, 32, .inl (fun j => nI (gO j)))), (q8, .inl (cI, 32, .inl fD)), (q9, .inl (cI, 2, .inl (fun j => nI (gE j))))] := hD
  refine lv_aload_n hx hb dX3_out_29 rfl (lv_at hl 0 rfl) ?_
  refine va_get (D := D) (ci := 3) (v := .int (nI 0)) (C := RX3) (T := TX3) (N := 16) hx hb hts hin3 hown hK hP 0 rfl rfl 0 (by decide) kf44 (fun _ h9 => h9) rfl dX3_out_30 ?_
  refine lv_if_le (tgt := 40) hx hb dX3_out_33 (by decide) (fun _ => ?_) (fun hc => absurd hc (by decide))
  refine lv_iload_n hx hb dX3_out_40 rfl (lv_at hl 2 rfl) ?_
  refine lv_aload_n hx hb dX3_out_41 rfl (lv_at hl 0 rfl) ?_
  refine va_get (D := D) (ci := 3) (v := .ref q9) (C := RX3) (T := TX3) (N := 16) hx hb hts hin3 hown hK hP 0 rfl rfl 13 (by decide) kf38 (fun _ h9 => h9) rfl dX3_out_42 ?_
  refine lv_iload_n hx hb dX3_out_45 rfl (lv_at hl 1 rfl) ?_
  refine va_iald hx hb hK hP 10 0 rfl rfl (vp_in_nI (by omega) (by omega)) dX3_out_46 ?_
  refine tp_i (show (fun j => nI (gE j)) (nI 0).toNatClampNeg = nI (gE 0) from congrArg (fun j => nI (gE j)) (nI_clamp (by omega))) ?_
  refine lv_icmp_ge (tgt := 64) hx hb dX3_out_47 (by decide) (fun c1 => ?_) (fun c1 => ?_)
  · have c1 : gE 0 ≤ j := (nI_leI (by omega) (by omega)).mp c1
    refine lv_iconst (v := -1) hx hb dX3_out_64 (by decide) ?_
    exact wr_i (()) hx hb hr hlocks hP hD hS dX3_out_65 (by rw [if_neg (by omega)]) (trivial)
  · have c1 : ¬ (gE 0 ≤ j) := fun h => c1 ((nI_leI (by omega) (by omega)).mpr h)
    refine lv_aload_n hx hb dX3_out_50 rfl (lv_at hl 0 rfl) ?_
    refine va_get (D := D) (ci := 3) (v := .ref q8) (C := RX3) (T := TX3) (N := 16) hx hb hts hin3 hown hK hP 0 rfl rfl 12 (by decide) kf35 (fun _ h9 => h9) rfl dX3_out_51 ?_
    refine lv_bipush (v := nI 16) hx hb dX3_out_54 (by decide) ?_
    refine lv_iload_n hx hb dX3_out_56 rfl (lv_at hl 1 rfl) ?_
    refine lv_imul hx hb dX3_out_57 ?_
    refine tp_i (show (nI 16) * (nI 0) = nI 0 from by decide) ?_
    refine lv_iload_n hx hb dX3_out_58 rfl (lv_at hl 2 rfl) ?_
    refine lv_iadd hx hb dX3_out_59 ?_
    refine tp_i (show (nI 0) + (nI j) = nI j from by rw [nI_add, Nat.zero_add]) ?_
    refine va_iald hx hb hK hP 9 0 rfl rfl (vp_in_nI (by omega) (by omega)) dX3_out_60 ?_
    refine tp_i (show fD (nI j).toNatClampNeg = fD j from congrArg fD (nI_clamp (by omega))) ?_
    refine lv_goto (tgt := 65) hx hb dX3_out_61 (by decide) ?_
    exact wr_i (()) hx hb hr hlocks hP hD hS dX3_out_65 (by rw [if_pos (by omega)]) (trivial)
set_option maxHeartbeats 4000000 in
set_option maxRecDepth 100000 in
/-- state of side 0 -/
theorem w_X3_state0 (lt : Nat) (hlt : lt < ml) (hml9 : ml ≤ 4) (sz : Nat) : Met l yX3_state wsX3_state { frames := 1, cells := 0, slots := 0, locals := 21 } (wr_P D [(cI, .int), (cJ, .long)] (mW hm q0 q1 q2 q3 q4 q5 q6 q7 q8 q9 cI cJ th nd fs ft mi ml fl gS gX gT gC gO fD gE sp fa) sz tp [.ref hm, .int (nI 0), .int (nI lt)]) (wx (Su := Unit) D [(cI, .int), (cJ, .long)] (va_A (mW hm q0 q1 q2 q3 q4 q5 q6 q7 q8 q9 cI cJ th nd fs ft mi ml fl gS gX gT gC gO fD gE sp fa) sz) (fun _ => some (.int (nI (gT (lt))))) (fun _ => True) (fun _ => mW hm q0 q1 q2 q3 q4 q5 q6 q7 q8 q9 cI cJ (nI 0) nd fs ft mi ml fl gS gX gT gC gO fD gE sp fa)) 0 0 (va_A (mW hm q0 q1 q2 q3 q4 q5 q6 q7 q8 q9 cI cJ th nd fs ft mi ml fl gS gX gT gC gO fD gE sp fa) sz) := by
  refine Met.ofW (cc := cX3_state) (maxL := 3) (ret := (some .int)) (by decide) rfl ?_
  intro p e s m args below meth c s₁ B hml hv
  obtain ⟨rfl, hsz, ⟨hP, hK, hD0⟩, hE⟩ := hv
  have hx := B.exec
  have hb := B.bytes
  have hr := B.returns
  have hts := atoms_spec (ws := wsX3_state) B.pre
  have hown : s.vm.findClass RX3 = some m.cls := findClass_of_methodNamed B.named
  have hlocks := B.notSynchronized
  subst hsz
  have hD := hD0.self (sz := s.heap.size)
  generalize hAe : va_A (mW hm q0 q1 q2 q3 q4 q5 q6 q7 q8 q9 cI cJ th nd fs ft mi ml fl gS gX gT gC gO fD gE sp fa) s.heap.size = A at hD hE ⊢
  have hA : ∀ q : Nat, s.heap.size ≤ q → A q := fun q h => by rw [← hAe]; exact Or.inr h
  have hS : va_S A s.heap s.heap [] := va_S.rf
  have hP : va_P D vwCl [(hm, .inr (3, [.int th, .int (nI nd), .ref q0, .ref q1, .int (nI mi), .int (nI ml), .ref q2, .ref q3, .ref q4, .ref q5, .ref q6, .ref q7, .ref q8, .ref q9, .int (nI sp), .int fa])), (q0, .inl (cI, 401, .inl fs)), (q1, .inl (cJ, 25664, .inr (.inl ft))), (q2, .inl (cI, 4, .inl fl)), (q3, .inl (cI, 8, .inl (fun j => nI (gS j)))), (q4, .inl (cI, 8, .inl (fun j => nI (gX j)))), (q5, .inl (cI, 8, .inl (fun j => nI (gT j)))), (q6, .inl (cI, 2, .inl (fun j => nI (gC j)))), (q7, .inl (cI, 32, .inl (fun j => nI (gO j)))), (q8, .inl (cI, 32, .inl fD)), (q9, .inl (cI, 2, .inl (fun j => nI (gE j))))] s.heap := hP
  have hD : va_D A [(hm, .inr (3, [.int th, .int (nI nd), .ref q0, .ref q1, .int (nI mi), .int (nI ml), .ref q2, .ref q3, .ref q4, .ref q5, .ref q6, .ref q7, .ref q8, .ref q9, .int (nI sp), .int fa])), (q0, .inl (cI, 401, .inl fs)), (q1, .inl (cJ, 25664, .inr (.inl ft))), (q2, .inl (cI, 4, .inl fl)), (q3, .inl (cI, 8, .inl (fun j => nI (gS j)))), (q4, .inl (cI, 8, .inl (fun j => nI (gX j)))), (q5, .inl (cI, 8, .inl (fun j => nI (gT j)))), (q6, .inl (cI, 2, .inl (fun j => nI (gC j)))), (q7, .inl (cI, 32, .inl (fun j => nI (gO j)))), (q8, .inl (cI, 32, .inl fD)), (q9, .inl (cI, 2, .inl (fun j => nI (gE j))))] := hD
  have hl := lv_entry ([.ref hm, .int (nI 0), .int (nI lt)]) (n := 3) (Nat.le_of_ble_eq_true rfl)
  rw [lg_entry_eq]
  generalize (lg_sl ([.ref hm, .int (nI 0), .int (nI lt)]) ++ List.replicate (3 - (lg_sl ([.ref hm, .int (nI 0), .int (nI lt)])).length) Slot.unset).toArray = ls at hl ⊢
  have hl : lv_has ls 3 [(0, .ref hm), (1, .int (nI 0)), (2, .int (nI lt))] := hl
  have hin3 : ∀ w ∈ wsX30, w ∈ wsX3_state := by decide +kernel
  have kf54 := hts (.fieldLink RX3 54 "SweepEqualModel" "latches" "I") (by decide +kernel)
  have kf44 := hts (.fieldLink RX3 44 "SweepEqualModel" "thrown" "I") (by decide +kernel)
  have kf26 := hts (.fieldLink RX3 26 "SweepEqualModel" "states" "[I") (by decide +kernel)
  refine lv_aload_n hx hb dX3_state_0 rfl (lv_at hl 0 rfl) ?_
  refine lv_iload_n hx hb dX3_state_1 rfl (lv_at hl 1 rfl) ?_
  refine rd_S (As := [.int (nI 0)]) (rest := [.ref hm]) ⟨hx, hb, hml, hown, hts⟩ (c_X3_isSide l (nI 0)) (va_cwS 1 hts gX3_state_X3_isSide rfl rfl rfl (by decide +kernel) ⟨Nat.le_of_ble_eq_true rfl, Nat.le_of_ble_eq_true rfl⟩) preEq rfl hl.1 rfl (Nat.le_of_ble_eq_true rfl) dX3_state_2 ⟨by show _ ≤ _; simp only [headSpec]; omega, by show _ ≤ _; simp only [headSpec]; omega⟩ ?_
  refine tp_i (show zI (decide (nI 0 = 0 ∨ nI 0 = 1)) = nI 1 from by decide) ?_
  refine lv_if_eq (tgt := 23) hx hb dX3_state_5 (by decide) (fun hc => absurd hc (by decide)) (fun _ => ?_)
  refine lv_iload_n hx hb dX3_state_8 rfl (lv_at hl 2 rfl) ?_
  refine lv_aload_n hx hb dX3_state_9 rfl (lv_at hl 0 rfl) ?_
  refine va_get (D := D) (ci := 3) (v := .int (nI ml)) (C := RX3) (T := TX3) (N := 16) hx hb hts hin3 hown hK hP 0 rfl rfl 5 (by decide) kf54 (fun _ h9 => h9) rfl dX3_state_10 ?_
  refine rd_S (As := [.int (nI lt), .int (nI ml)]) (rest := [.ref hm]) ⟨hx, hb, hml, hown, hts⟩ (c_X3_isIn l (nI lt) (nI ml)) (va_cwS 2 hts gX3_state_X3_isIn rfl rfl rfl (by decide +kernel) ⟨Nat.le_of_ble_eq_true rfl, Nat.le_of_ble_eq_true rfl⟩) preEq rfl hl.1 rfl (Nat.le_of_ble_eq_true rfl) dX3_state_13 ⟨by show _ ≤ _; simp only [headSpec]; omega, by show _ ≤ _; simp only [headSpec]; omega⟩ ?_
  refine tp_i (show zI (decide (¬ nI lt < 0 ∧ ¬ nI ml ≤ nI lt)) = nI 1 from lit_t hlt (by omega)) ?_
  refine lv_if_eq (tgt := 23) hx hb dX3_state_16 (by decide) (fun hc => absurd hc (by decide)) (fun _ => ?_)
  refine lv_iconst (v := nI 0) hx hb dX3_state_19 (by decide) ?_
  refine lv_goto (tgt := 24) hx hb dX3_state_20 (by decide) ?_
  refine va_put (D := D) (ci := 3) (v := .int (nI 0)) (ty := .int) (C := RX3) (T := TX3) (N := 16) hx hb hts hin3 tyX3 tyX3_ok nmX3 hown hK hP hD hS 0 rfl rfl 0 (by decide) kf44 (fun _ h9 => h9) rfl (by decide +kernel) rfl rfl (Nat.le_of_ble_eq_true rfl) dX3_state_24 (fun H locs hP hD hS => ?_)
  have hP : va_P D vwCl [(hm, .inr (3, [.int (nI 0), .int (nI nd), .ref q0, .ref q1, .int (nI mi), .int (nI ml), .ref q2, .ref q3, .ref q4, .ref q5, .ref q6, .ref q7, .ref q8, .ref q9, .int (nI sp), .int fa])), (q0, .inl (cI, 401, .inl fs)), (q1, .inl (cJ, 25664, .inr (.inl ft))), (q2, .inl (cI, 4, .inl fl)), (q3, .inl (cI, 8, .inl (fun j => nI (gS j)))), (q4, .inl (cI, 8, .inl (fun j => nI (gX j)))), (q5, .inl (cI, 8, .inl (fun j => nI (gT j)))), (q6, .inl (cI, 2, .inl (fun j => nI (gC j)))), (q7, .inl (cI, 32, .inl (fun j => nI (gO j)))), (q8, .inl (cI, 32, .inl fD)), (q9, .inl (cI, 2, .inl (fun j => nI (gE j))))] H := hP
  have hD : va_D A [(hm, .inr (3, [.int (nI 0), .int (nI nd), .ref q0, .ref q1, .int (nI mi), .int (nI ml), .ref q2, .ref q3, .ref q4, .ref q5, .ref q6, .ref q7, .ref q8, .ref q9, .int (nI sp), .int fa])), (q0, .inl (cI, 401, .inl fs)), (q1, .inl (cJ, 25664, .inr (.inl ft))), (q2, .inl (cI, 4, .inl fl)), (q3, .inl (cI, 8, .inl (fun j => nI (gS j)))), (q4, .inl (cI, 8, .inl (fun j => nI (gX j)))), (q5, .inl (cI, 8, .inl (fun j => nI (gT j)))), (q6, .inl (cI, 2, .inl (fun j => nI (gC j)))), (q7, .inl (cI, 32, .inl (fun j => nI (gO j)))), (q8, .inl (cI, 32, .inl fD)), (q9, .inl (cI, 2, .inl (fun j => nI (gE j))))] := hD
  refine lv_aload_n hx hb dX3_state_27 rfl (lv_at hl 0 rfl) ?_
  refine va_get (D := D) (ci := 3) (v := .int (nI 0)) (C := RX3) (T := TX3) (N := 16) hx hb hts hin3 hown hK hP 0 rfl rfl 0 (by decide) kf44 (fun _ h9 => h9) rfl dX3_state_28 ?_
  refine lv_if_le (tgt := 38) hx hb dX3_state_31 (by decide) (fun _ => ?_) (fun hc => absurd hc (by decide))
  refine lv_aload_n hx hb dX3_state_38 rfl (lv_at hl 0 rfl) ?_
  refine va_get (D := D) (ci := 3) (v := .ref q5) (C := RX3) (T := TX3) (N := 16) hx hb hts hin3 hown hK hP 0 rfl rfl 9 (by decide) kf26 (fun _ h9 => h9) rfl dX3_state_39 ?_
  refine lv_iconst (v := nI 4) hx hb dX3_state_42 (by decide) ?_
  refine lv_iload_n hx hb dX3_state_43 rfl (lv_at hl 1 rfl) ?_
  refine lv_imul hx hb dX3_state_44 ?_
  refine tp_i (show (nI 4) * (nI 0) = nI 0 from by decide) ?_
  refine lv_iload_n hx hb dX3_state_45 rfl (lv_at hl 2 rfl) ?_
  refine lv_iadd hx hb dX3_state_46 ?_
  refine tp_i (show (nI 0) + (nI lt) = nI lt from by rw [nI_add, Nat.zero_add]) ?_
  refine va_iald hx hb hK hP 6 0 rfl rfl (vp_in_nI (by omega) (by omega)) dX3_state_47 ?_
  refine tp_i (show (fun j => nI (gT j)) (nI lt).toNatClampNeg = nI (gT lt) from congrArg (fun j => nI (gT j)) (nI_clamp (by omega))) ?_
  exact wr_i (()) hx hb hr hlocks hP hD hS dX3_state_48 (rfl) (trivial)
set_option maxHeartbeats 4000000 in
set_option maxRecDepth 100000 in
/-- out: no such output of side 1 -/
theorem w_X3_outB2_1 (y : Int32) (hb0 : y < 0 ∨ nI (gC 1) ≤ y) (sz : Nat) : Met l yX3_out wsX3_out { frames := 1, cells := 0, slots := 0, locals := 21 } (wr_P D [(cI, .int), (cJ, .long)] (mW hm q0 q1 q2 q3 q4 q5 q6 q7 q8 q9 cI cJ th nd fs ft mi ml fl gS gX gT gC gO fD gE sp fa) sz tp [.ref hm, .int (nI 1), .int y]) (wx (Su := Unit) D [(cI, .int), (cJ, .long)] (va_A (mW hm q0 q1 q2 q3 q4 q5 q6 q7 q8 q9 cI cJ th nd fs ft mi ml fl gS gX gT gC gO fD gE sp fa) sz) (fun _ => some (.int (nI 0))) (fun _ => True) (fun _ => mW hm q0 q1 q2 q3 q4 q5 q6 q7 q8 q9 cI cJ (nI 1) nd fs ft mi ml fl gS gX gT gC gO fD gE sp fa)) 0 0 (va_A (mW hm q0 q1 q2 q3 q4 q5 q6 q7 q8 q9 cI cJ th nd fs ft mi ml fl gS gX gT gC gO fD gE sp fa) sz) := by
  refine Met.ofW (cc := cX3_out) (maxL := 3) (ret := (some .int)) (by decide) rfl ?_
  intro p e s m args below meth c s₁ B hml hv
  obtain ⟨rfl, hsz, ⟨hP, hK, hD0⟩, hE⟩ := hv
  have hx := B.exec
  have hb := B.bytes
  have hr := B.returns
  have hts := atoms_spec (ws := wsX3_out) B.pre
  have hown : s.vm.findClass RX3 = some m.cls := findClass_of_methodNamed B.named
  have hlocks := B.notSynchronized
  subst hsz
  have hD := hD0.self (sz := s.heap.size)
  generalize hAe : va_A (mW hm q0 q1 q2 q3 q4 q5 q6 q7 q8 q9 cI cJ th nd fs ft mi ml fl gS gX gT gC gO fD gE sp fa) s.heap.size = A at hD hE ⊢
  have hA : ∀ q : Nat, s.heap.size ≤ q → A q := fun q h => by rw [← hAe]; exact Or.inr h
  have hS : va_S A s.heap s.heap [] := va_S.rf
  have hP : va_P D vwCl [(hm, .inr (3, [.int th, .int (nI nd), .ref q0, .ref q1, .int (nI mi), .int (nI ml), .ref q2, .ref q3, .ref q4, .ref q5, .ref q6, .ref q7, .ref q8, .ref q9, .int (nI sp), .int fa])), (q0, .inl (cI, 401, .inl fs)), (q1, .inl (cJ, 25664, .inr (.inl ft))), (q2, .inl (cI, 4, .inl fl)), (q3, .inl (cI, 8, .inl (fun j => nI (gS j)))), (q4, .inl (cI, 8, .inl (fun j => nI (gX j)))), (q5, .inl (cI, 8, .inl (fun j => nI (gT j)))), (q6, .inl (cI, 2, .inl (fun j => nI (gC j)))), (q7, .inl (cI, 32, .inl (fun j => nI (gO j)))), (q8, .inl (cI, 32, .inl fD)), (q9, .inl (cI, 2, .inl (fun j => nI (gE j))))] s.heap := hP
  have hD : va_D A [(hm, .inr (3, [.int th, .int (nI nd), .ref q0, .ref q1, .int (nI mi), .int (nI ml), .ref q2, .ref q3, .ref q4, .ref q5, .ref q6, .ref q7, .ref q8, .ref q9, .int (nI sp), .int fa])), (q0, .inl (cI, 401, .inl fs)), (q1, .inl (cJ, 25664, .inr (.inl ft))), (q2, .inl (cI, 4, .inl fl)), (q3, .inl (cI, 8, .inl (fun j => nI (gS j)))), (q4, .inl (cI, 8, .inl (fun j => nI (gX j)))), (q5, .inl (cI, 8, .inl (fun j => nI (gT j)))), (q6, .inl (cI, 2, .inl (fun j => nI (gC j)))), (q7, .inl (cI, 32, .inl (fun j => nI (gO j)))), (q8, .inl (cI, 32, .inl fD)), (q9, .inl (cI, 2, .inl (fun j => nI (gE j))))] := hD
  have hl := lv_entry ([.ref hm, .int (nI 1), .int y]) (n := 3) (Nat.le_of_ble_eq_true rfl)
  rw [lg_entry_eq]
  generalize (lg_sl ([.ref hm, .int (nI 1), .int y]) ++ List.replicate (3 - (lg_sl ([.ref hm, .int (nI 1), .int y])).length) Slot.unset).toArray = ls at hl ⊢
  have hl : lv_has ls 3 [(0, .ref hm), (1, .int (nI 1)), (2, .int y)] := hl
  have hin3 : ∀ w ∈ wsX30, w ∈ wsX3_out := by decide +kernel
  have kf29 := hts (.fieldLink RX3 29 "SweepEqualModel" "outputCounts" "[I") (by decide +kernel)
  have kf44 := hts (.fieldLink RX3 44 "SweepEqualModel" "thrown" "I") (by decide +kernel)
  have kf38 := hts (.fieldLink RX3 38 "SweepEqualModel" "toldCounts" "[I") (by decide +kernel)
  have kf35 := hts (.fieldLink RX3 35 "SweepEqualModel" "told" "[I") (by decide +kernel)
  refine lv_aload_n hx hb dX3_out_0 rfl (lv_at hl 0 rfl) ?_
  refine lv_iload_n hx hb dX3_out_1 rfl (lv_at hl 1 rfl) ?_
  refine rd_S (As := [.int (nI 1)]) (rest := [.ref hm]) ⟨hx, hb, hml, hown, hts⟩ (c_X3_isSide l (nI 1)) (va_cwS 1 hts gX3_out_X3_isSide rfl rfl rfl (by decide +kernel) ⟨Nat.le_of_ble_eq_true rfl, Nat.le_of_ble_eq_true rfl⟩) preEq rfl hl.1 rfl (Nat.le_of_ble_eq_true rfl) dX3_out_2 ⟨by show _ ≤ _; simp only [headSpec]; omega, by show _ ≤ _; simp only [headSpec]; omega⟩ ?_
  refine tp_i (show zI (decide (nI 1 = 0 ∨ nI 1 = 1)) = nI 1 from by decide) ?_
  refine lv_if_eq (tgt := 25) hx hb dX3_out_5 (by decide) (fun hc => absurd hc (by decide)) (fun _ => ?_)
  refine lv_iload_n hx hb dX3_out_8 rfl (lv_at hl 2 rfl) ?_
  refine lv_aload_n hx hb dX3_out_9 rfl (lv_at hl 0 rfl) ?_
  refine va_get (D := D) (ci := 3) (v := .ref q6) (C := RX3) (T := TX3) (N := 16) hx hb hts hin3 hown hK hP 0 rfl rfl 10 (by decide) kf29 (fun _ h9 => h9) rfl dX3_out_10 ?_
  refine lv_iload_n hx hb dX3_out_13 rfl (lv_at hl 1 rfl) ?_
  refine va_iald hx hb hK hP 7 0 rfl rfl (vp_in_nI (by omega) (by omega)) dX3_out_14 ?_
  refine tp_i (show (fun j => nI (gC j)) (nI 1).toNatClampNeg = nI (gC 1) from congrArg (fun j => nI (gC j)) (nI_clamp (by omega))) ?_
  refine rd_S (As := [.int y, .int (nI (gC 1))]) (rest := [.ref hm]) ⟨hx, hb, hml, hown, hts⟩ (c_X3_isIn l y (nI (gC 1))) (va_cwS 2 hts gX3_out_X3_isIn rfl rfl rfl (by decide +kernel) ⟨Nat.le_of_ble_eq_true rfl, Nat.le_of_ble_eq_true rfl⟩) preEq rfl hl.1 rfl (Nat.le_of_ble_eq_true rfl) dX3_out_15 ⟨by show _ ≤ _; simp only [headSpec]; omega, by show _ ≤ _; simp only [headSpec]; omega⟩ ?_
  refine tp_i (show zI (decide (¬ y < 0 ∧ ¬ nI (gC 1) ≤ y)) = nI 0 from lit_f hb0) ?_
  refine lv_if_eq (tgt := 25) hx hb dX3_out_18 (by decide) (fun _ => ?_) (fun hc => absurd hc (by decide))
  refine lv_iconst (v := nI 1) hx hb dX3_out_25 (by decide) ?_
  refine va_put (D := D) (ci := 3) (v := .int (nI 1)) (ty := .int) (C := RX3) (T := TX3) (N := 16) hx hb hts hin3 tyX3 tyX3_ok nmX3 hown hK hP hD hS 0 rfl rfl 0 (by decide) kf44 (fun _ h9 => h9) rfl (by decide +kernel) rfl rfl (Nat.le_of_ble_eq_true rfl) dX3_out_26 (fun H locs hP hD hS => ?_)
  have hP : va_P D vwCl [(hm, .inr (3, [.int (nI 1), .int (nI nd), .ref q0, .ref q1, .int (nI mi), .int (nI ml), .ref q2, .ref q3, .ref q4, .ref q5, .ref q6, .ref q7, .ref q8, .ref q9, .int (nI sp), .int fa])), (q0, .inl (cI, 401, .inl fs)), (q1, .inl (cJ, 25664, .inr (.inl ft))), (q2, .inl (cI, 4, .inl fl)), (q3, .inl (cI, 8, .inl (fun j => nI (gS j)))), (q4, .inl (cI, 8, .inl (fun j => nI (gX j)))), (q5, .inl (cI, 8, .inl (fun j => nI (gT j)))), (q6, .inl (cI, 2, .inl (fun j => nI (gC j)))), (q7, .inl (cI, 32, .inl (fun j => nI (gO j)))), (q8, .inl (cI, 32, .inl fD)), (q9, .inl (cI, 2, .inl (fun j => nI (gE j))))] H := hP
  have hD : va_D A [(hm, .inr (3, [.int (nI 1), .int (nI nd), .ref q0, .ref q1, .int (nI mi), .int (nI ml), .ref q2, .ref q3, .ref q4, .ref q5, .ref q6, .ref q7, .ref q8, .ref q9, .int (nI sp), .int fa])), (q0, .inl (cI, 401, .inl fs)), (q1, .inl (cJ, 25664, .inr (.inl ft))), (q2, .inl (cI, 4, .inl fl)), (q3, .inl (cI, 8, .inl (fun j => nI (gS j)))), (q4, .inl (cI, 8, .inl (fun j => nI (gX j)))), (q5, .inl (cI, 8, .inl (fun j => nI (gT j)))), (q6, .inl (cI, 2, .inl (fun j => nI (gC j)))), (q7, .inl (cI, 32, .inl (fun j => nI (gO j)))), (q8, .inl (cI, 32, .inl fD)), (q9, .inl (cI, 2, .inl (fun j => nI (gE j))))] := hD
  refine lv_aload_n hx hb dX3_out_29 rfl (lv_at hl 0 rfl) ?_
  refine va_get (D := D) (ci := 3) (v := .int (nI 1)) (C := RX3) (T := TX3) (N := 16) hx hb hts hin3 hown hK hP 0 rfl rfl 0 (by decide) kf44 (fun _ h9 => h9) rfl dX3_out_30 ?_
  refine lv_if_le (tgt := 40) hx hb dX3_out_33 (by decide) (fun hc => absurd hc (by decide)) (fun _ => ?_)
  refine lv_iconst (v := nI 0) hx hb dX3_out_36 (by decide) ?_
  refine lv_goto (tgt := 65) hx hb dX3_out_37 (by decide) ?_
  exact wr_i (()) hx hb hr hlocks hP hD hS dX3_out_65 (rfl) (trivial)
set_option maxHeartbeats 4000000 in
set_option maxRecDepth 100000 in
/-- out of side 1 -/
theorem w_X3_out1 (j : Nat) (hj : j < gC 1) (hc0 : gC 1 ≤ 16) (he0 : gE 1 ≤ 16) (sz : Nat) : Met l yX3_out wsX3_out { frames := 1, cells := 0, slots := 0, locals := 21 } (wr_P D [(cI, .int), (cJ, .long)] (mW hm q0 q1 q2 q3 q4 q5 q6 q7 q8 q9 cI cJ th nd fs ft mi ml fl gS gX gT gC gO fD gE sp fa) sz tp [.ref hm, .int (nI 1), .int (nI j)]) (wx (Su := Unit) D [(cI, .int), (cJ, .long)] (va_A (mW hm q0 q1 q2 q3 q4 q5 q6 q7 q8 q9 cI cJ th nd fs ft mi ml fl gS gX gT gC gO fD gE sp fa) sz) (fun _ => some (.int (if j < gE 1 then fD (16 + j) else -1))) (fun _ => True) (fun _ => mW hm q0 q1 q2 q3 q4 q5 q6 q7 q8 q9 cI cJ (nI 0) nd fs ft mi ml fl gS gX gT gC gO fD gE sp fa)) 0 0 (va_A (mW hm q0 q1 q2 q3 q4 q5 q6 q7 q8 q9 cI cJ th nd fs ft mi ml fl gS gX gT gC gO fD gE sp fa) sz) := by
  refine Met.ofW (cc := cX3_out) (maxL := 3) (ret := (some .int)) (by decide) rfl ?_
  intro p e s m args below meth c s₁ B hml hv
  obtain ⟨rfl, hsz, ⟨hP, hK, hD0⟩, hE⟩ := hv
  have hx := B.exec
  have hb := B.bytes
  have hr := B.returns
  have hts := atoms_spec (ws := wsX3_out) B.pre
  have hown : s.vm.findClass RX3 = some m.cls := findClass_of_methodNamed B.named
  have hlocks := B.notSynchronized
  subst hsz
  have hD := hD0.self (sz := s.heap.size)
  generalize hAe : va_A (mW hm q0 q1 q2 q3 q4 q5 q6 q7 q8 q9 cI cJ th nd fs ft mi ml fl gS gX gT gC gO fD gE sp fa) s.heap.size = A at hD hE ⊢
  have hA : ∀ q : Nat, s.heap.size ≤ q → A q := fun q h => by rw [← hAe]; exact Or.inr h
  have hS : va_S A s.heap s.heap [] := va_S.rf
  have hP : va_P D vwCl [(hm, .inr (3, [.int th, .int (nI nd), .ref q0, .ref q1, .int (nI mi), .int (nI ml), .ref q2, .ref q3, .ref q4, .ref q5, .ref q6, .ref q7, .ref q8, .ref q9, .int (nI sp), .int fa])), (q0, .inl (cI, 401, .inl fs)), (q1, .inl (cJ, 25664, .inr (.inl ft))), (q2, .inl (cI, 4, .inl fl)), (q3, .inl (cI, 8, .inl (fun j => nI (gS j)))), (q4, .inl (cI, 8, .inl (fun j => nI (gX j)))), (q5, .inl (cI, 8, .inl (fun j => nI (gT j)))), (q6, .inl (cI, 2, .inl (fun j => nI (gC j)))), (q7, .inl (cI, 32, .inl (fun j => nI (gO j)))), (q8, .inl (cI, 32, .inl fD)), (q9, .inl (cI, 2, .inl (fun j => nI (gE j))))] s.heap := hP
  have hD : va_D A [(hm, .inr (3, [.int th, .int (nI nd), .ref q0, .ref q1, .int (nI mi), .int (nI ml), .ref q2, .ref q3, .ref q4, .ref q5, .ref q6, .ref q7, .ref q8, .ref q9, .int (nI sp), .int fa])), (q0, .inl (cI, 401, .inl fs)), (q1, .inl (cJ, 25664, .inr (.inl ft))), (q2, .inl (cI, 4, .inl fl)), (q3, .inl (cI, 8, .inl (fun j => nI (gS j)))), (q4, .inl (cI, 8, .inl (fun j => nI (gX j)))), (q5, .inl (cI, 8, .inl (fun j => nI (gT j)))), (q6, .inl (cI, 2, .inl (fun j => nI (gC j)))), (q7, .inl (cI, 32, .inl (fun j => nI (gO j)))), (q8, .inl (cI, 32, .inl fD)), (q9, .inl (cI, 2, .inl (fun j => nI (gE j))))] := hD
  have hl := lv_entry ([.ref hm, .int (nI 1), .int (nI j)]) (n := 3) (Nat.le_of_ble_eq_true rfl)
  rw [lg_entry_eq]
  generalize (lg_sl ([.ref hm, .int (nI 1), .int (nI j)]) ++ List.replicate (3 - (lg_sl ([.ref hm, .int (nI 1), .int (nI j)])).length) Slot.unset).toArray = ls at hl ⊢
  have hl : lv_has ls 3 [(0, .ref hm), (1, .int (nI 1)), (2, .int (nI j))] := hl
  have hin3 : ∀ w ∈ wsX30, w ∈ wsX3_out := by decide +kernel
  have kf29 := hts (.fieldLink RX3 29 "SweepEqualModel" "outputCounts" "[I") (by decide +kernel)
  have kf44 := hts (.fieldLink RX3 44 "SweepEqualModel" "thrown" "I") (by decide +kernel)
  have kf38 := hts (.fieldLink RX3 38 "SweepEqualModel" "toldCounts" "[I") (by decide +kernel)
  have kf35 := hts (.fieldLink RX3 35 "SweepEqualModel" "told" "[I") (by decide +kernel)
  refine lv_aload_n hx hb dX3_out_0 rfl (lv_at hl 0 rfl) ?_
  refine lv_iload_n hx hb dX3_out_1 rfl (lv_at hl 1 rfl) ?_
  refine rd_S (As := [.int (nI 1)]) (rest := [.ref hm]) ⟨hx, hb, hml, hown, hts⟩ (c_X3_isSide l (nI 1)) (va_cwS 1 hts gX3_out_X3_isSide rfl rfl rfl (by decide +kernel) ⟨Nat.le_of_ble_eq_true rfl, Nat.le_of_ble_eq_true rfl⟩) preEq rfl hl.1 rfl (Nat.le_of_ble_eq_true rfl) dX3_out_2 ⟨by show _ ≤ _; simp only [headSpec]; omega, by show _ ≤ _; simp only [headSpec]; omega⟩ ?_
  refine tp_i (show zI (decide (nI 1 = 0 ∨ nI 1 = 1)) = nI 1 from by decide) ?_
  refine lv_if_eq (tgt := 25) hx hb dX3_out_5 (by decide) (fun hc => absurd hc (by decide)) (fun _ => ?_)
  refine lv_iload_n hx hb dX3_out_8 rfl (lv_at hl 2 rfl) ?_
  refine lv_aload_n hx hb dX3_out_9 rfl (lv_at hl 0 rfl) ?_
  refine va_get (D := D) (ci := 3) (v := .ref q6) (C := RX3) (T := TX3) (N := 16) hx hb hts hin3 hown hK hP 0 rfl rfl 10 (by decide) kf29 (fun _ h9 => h9) rfl dX3_out_10 ?_
  refine lv_iload_n hx hb dX3_out_13 rfl (lv_at hl 1 rfl) ?_
  refine va_iald hx hb hK hP 7 0 rfl rfl (vp_in_nI (by omega) (by omega)) dX3_out_14 ?_
  refine tp_i (show (fun j => nI (gC j)) (nI 1).toNatClampNeg = nI (gC 1) from congrArg (fun j => nI (gC j)) (nI_clamp (by omega))) ?_
  refine rd_S (As := [.int (nI j), .int (nI (gC 1))]) (rest := [.ref hm]) ⟨hx, hb, hml, hown, hts⟩ (c_X3_isIn l (nI j) (nI (gC 1))) (va_cwS 2 hts gX3_out_X3_isIn rfl rfl rfl (by decide +kernel) ⟨Nat.le_of_ble_eq_true rfl, Nat.le_of_ble_eq_true rfl⟩) preEq rfl hl.1 rfl (Nat.le_of_ble_eq_true rfl) dX3_out_15 ⟨by show _ ≤ _; simp only [headSpec]; omega, by show _ ≤ _; simp only [headSpec]; omega⟩ ?_
  refine tp_i (show zI (decide (¬ nI j < 0 ∧ ¬ nI (gC 1) ≤ nI j)) = nI 1 from lit_t hj (by omega)) ?_
  refine lv_if_eq (tgt := 25) hx hb dX3_out_18 (by decide) (fun hc => absurd hc (by decide)) (fun _ => ?_)
  refine lv_iconst (v := nI 0) hx hb dX3_out_21 (by decide) ?_
  refine lv_goto (tgt := 26) hx hb dX3_out_22 (by decide) ?_
  refine va_put (D := D) (ci := 3) (v := .int (nI 0)) (ty := .int) (C := RX3) (T := TX3) (N := 16) hx hb hts hin3 tyX3 tyX3_ok nmX3 hown hK hP hD hS 0 rfl rfl 0 (by decide) kf44 (fun _ h9 => h9) rfl (by decide +kernel) rfl rfl (Nat.le_of_ble_eq_true rfl) dX3_out_26 (fun H locs hP hD hS => ?_)
  have hP : va_P D vwCl [(hm, .inr (3, [.int (nI 0), .int (nI nd), .ref q0, .ref q1, .int (nI mi), .int (nI ml), .ref q2, .ref q3, .ref q4, .ref q5, .ref q6, .ref q7, .ref q8, .ref q9, .int (nI sp), .int fa])), (q0, .inl (cI, 401, .inl fs)), (q1, .inl (cJ, 25664, .inr (.inl ft))), (q2, .inl (cI, 4, .inl fl)), (q3, .inl (cI, 8, .inl (fun j => nI (gS j)))), (q4, .inl (cI, 8, .inl (fun j => nI (gX j)))), (q5, .inl (cI, 8, .inl (fun j => nI (gT j)))), (q6, .inl (cI, 2, .inl (fun j => nI (gC j)))), (q7, .inl (cI, 32, .inl (fun j => nI (gO j)))), (q8, .inl (cI, 32, .inl fD)), (q9, .inl (cI, 2, .inl (fun j => nI (gE j))))] H := hP
  have hD : va_D A [(hm, .inr (3, [.int (nI 0), .int (nI nd), .ref q0, .ref q1, .int (nI mi), .int (nI ml), .ref q2, .ref q3, .ref q4, .ref q5, .ref q6, .ref q7, .ref q8, .ref q9, .int (nI sp), .int fa])), (q0, .inl (cI, 401, .inl fs)), (q1, .inl (cJ, 25664, .inr (.inl ft))), (q2, .inl (cI, 4, .inl fl)), (q3, .inl (cI, 8, .inl (fun j => nI (gS j)))), (q4, .inl (cI, 8, .inl (fun j => nI (gX j)))), (q5, .inl (cI, 8, .inl (fun j => nI (gT j)))), (q6, .inl (cI, 2, .inl (fun j => nI (gC j)))), (q7, .inl (cI, 32, .inl (fun j => nI (gO j)))), (q8, .inl (cI, 32, .inl fD)), (q9, .inl (cI, 2, .inl (fun j => nI (gE j))))] := hD
  refine lv_aload_n hx hb dX3_out_29 rfl (lv_at hl 0 rfl) ?_
  refine va_get (D := D) (ci := 3) (v := .int (nI 0)) (C := RX3) (T := TX3) (N := 16) hx hb hts hin3 hown hK hP 0 rfl rfl 0 (by decide) kf44 (fun _ h9 => h9) rfl dX3_out_30 ?_
  refine lv_if_le (tgt := 40) hx hb dX3_out_33 (by decide) (fun _ => ?_) (fun hc => absurd hc (by decide))
  refine lv_iload_n hx hb dX3_out_40 rfl (lv_at hl 2 rfl) ?_
  refine lv_aload_n hx hb dX3_out_41 rfl (lv_at hl 0 rfl) ?_
  refine va_get (D := D) (ci := 3) (v := .ref q9) (C := RX3) (T := TX3) (N := 16) hx hb hts hin3 hown hK hP 0 rfl rfl 13 (by decide) kf38 (fun _ h9 => h9) rfl dX3_out_42 ?_
  refine lv_iload_n hx hb dX3_out_45 rfl (lv_at hl 1 rfl) ?_
  refine va_iald hx hb hK hP 10 0 rfl rfl (vp_in_nI (by omega) (by omega)) dX3_out_46 ?_
  refine tp_i (show (fun j => nI (gE j)) (nI 1).toNatClampNeg = nI (gE 1) from congrArg (fun j => nI (gE j)) (nI_clamp (by omega))) ?_
  refine lv_icmp_ge (tgt := 64) hx hb dX3_out_47 (by decide) (fun c1 => ?_) (fun c1 => ?_)
  · have c1 : gE 1 ≤ j := (nI_leI (by omega) (by omega)).mp c1
    refine lv_iconst (v := -1) hx hb dX3_out_64 (by decide) ?_
    exact wr_i (()) hx hb hr hlocks hP hD hS dX3_out_65 (by rw [if_neg (by omega)]) (trivial)
  · have c1 : ¬ (gE 1 ≤ j) := fun h => c1 ((nI_leI (by omega) (by omega)).mpr h)
    refine lv_aload_n hx hb dX3_out_50 rfl (lv_at hl 0 rfl) ?_
    refine va_get (D := D) (ci := 3) (v := .ref q8) (C := RX3) (T := TX3) (N := 16) hx hb hts hin3 hown hK hP 0 rfl rfl 12 (by decide) kf35 (fun _ h9 => h9) rfl dX3_out_51 ?_
    refine lv_bipush (v := nI 16) hx hb dX3_out_54 (by decide) ?_
    refine lv_iload_n hx hb dX3_out_56 rfl (lv_at hl 1 rfl) ?_
    refine lv_imul hx hb dX3_out_57 ?_
    refine tp_i (show (nI 16) * (nI 1) = nI 16 from by decide) ?_
    refine lv_iload_n hx hb dX3_out_58 rfl (lv_at hl 2 rfl) ?_
    refine lv_iadd hx hb dX3_out_59 ?_
    refine tp_i (show (nI 16) + (nI j) = nI (16 + j) from nI_add _ _) ?_
    refine va_iald hx hb hK hP 9 0 rfl rfl (vp_in_nI (by omega) (by omega)) dX3_out_60 ?_
    refine tp_i (show fD (nI (16 + j)).toNatClampNeg = fD (16 + j) from congrArg fD (nI_clamp (by omega))) ?_
    refine lv_goto (tgt := 65) hx hb dX3_out_61 (by decide) ?_
    exact wr_i (()) hx hb hr hlocks hP hD hS dX3_out_65 (by rw [if_pos (by omega)]) (trivial)
set_option maxHeartbeats 4000000 in
set_option maxRecDepth 100000 in
/-- state of side 1 -/
theorem w_X3_state1 (lt : Nat) (hlt : lt < ml) (hml9 : ml ≤ 4) (sz : Nat) : Met l yX3_state wsX3_state { frames := 1, cells := 0, slots := 0, locals := 21 } (wr_P D [(cI, .int), (cJ, .long)] (mW hm q0 q1 q2 q3 q4 q5 q6 q7 q8 q9 cI cJ th nd fs ft mi ml fl gS gX gT gC gO fD gE sp fa) sz tp [.ref hm, .int (nI 1), .int (nI lt)]) (wx (Su := Unit) D [(cI, .int), (cJ, .long)] (va_A (mW hm q0 q1 q2 q3 q4 q5 q6 q7 q8 q9 cI cJ th nd fs ft mi ml fl gS gX gT gC gO fD gE sp fa) sz) (fun _ => some (.int (nI (gT (4 + lt))))) (fun _ => True) (fun _ => mW hm q0 q1 q2 q3 q4 q5 q6 q7 q8 q9 cI cJ (nI 0) nd fs ft mi ml fl gS gX gT gC gO fD gE sp fa)) 0 0 (va_A (mW hm q0 q1 q2 q3 q4 q5 q6 q7 q8 q9 cI cJ th nd fs ft mi ml fl gS gX gT gC gO fD gE sp fa) sz) := by
  refine Met.ofW (cc := cX3_state) (maxL := 3) (ret := (some .int)) (by decide) rfl ?_
  intro p e s m args below meth c s₁ B hml hv
  obtain ⟨rfl, hsz, ⟨hP, hK, hD0⟩, hE⟩ := hv
  have hx := B.exec
  have hb := B.bytes
  have hr := B.returns
  have hts := atoms_spec (ws := wsX3_state) B.pre
  have hown : s.vm.findClass RX3 = some m.cls := findClass_of_methodNamed B.named
  have hlocks := B.notSynchronized
  subst hsz
  have hD := hD0.self (sz := s.heap.size)
  generalize hAe : va_A (mW hm q0 q1 q2 q3 q4 q5 q6 q7 q8 q9 cI cJ th nd fs ft mi ml fl gS gX gT gC gO fD gE sp fa) s.heap.size = A at hD hE ⊢
  have hA : ∀ q : Nat, s.heap.size ≤ q → A q := fun q h => by rw [← hAe]; exact Or.inr h
  have hS : va_S A s.heap s.heap [] := va_S.rf
  have hP : va_P D vwCl [(hm, .inr (3, [.int th, .int (nI nd), .ref q0, .ref q1, .int (nI mi), .int (nI ml), .ref q2, .ref q3, .ref q4, .ref q5, .ref q6, .ref q7, .ref q8, .ref q9, .int (nI sp), .int fa])), (q0, .inl (cI, 401, .inl fs)), (q1, .inl (cJ, 25664, .inr (.inl ft))), (q2, .inl (cI, 4, .inl fl)), (q3, .inl (cI, 8, .inl (fun j => nI (gS j)))), (q4, .inl (cI, 8, .inl (fun j => nI (gX j)))), (q5, .inl (cI, 8, .inl (fun j => nI (gT j)))), (q6, .inl (cI, 2, .inl (fun j => nI (gC j)))), (q7, .inl (cI, 32, .inl (fun j => nI (gO j)))), (q8, .inl (cI, 32, .inl fD)), (q9, .inl (cI, 2, .inl (fun j => nI (gE j))))] s.heap := hP
  have hD : va_D A [(hm, .inr (3, [.int th, .int (nI nd), .ref q0, .ref q1, .int (nI mi), .int (nI ml), .ref q2, .ref q3, .ref q4, .ref q5, .ref q6, .ref q7, .ref q8, .ref q9, .int (nI sp), .int fa])), (q0, .inl (cI, 401, .inl fs)), (q1, .inl (cJ, 25664, .inr (.inl ft))), (q2, .inl (cI, 4, .inl fl)), (q3, .inl (cI, 8, .inl (fun j => nI (gS j)))), (q4, .inl (cI, 8, .inl (fun j => nI (gX j)))), (q5, .inl (cI, 8, .inl (fun j => nI (gT j)))), (q6, .inl (cI, 2, .inl (fun j => nI (gC j)))), (q7, .inl (cI, 32, .inl (fun j => nI (gO j)))), (q8, .inl (cI, 32, .inl fD)), (q9, .inl (cI, 2, .inl (fun j => nI (gE j))))] := hD
  have hl := lv_entry ([.ref hm, .int (nI 1), .int (nI lt)]) (n := 3) (Nat.le_of_ble_eq_true rfl)
  rw [lg_entry_eq]
  generalize (lg_sl ([.ref hm, .int (nI 1), .int (nI lt)]) ++ List.replicate (3 - (lg_sl ([.ref hm, .int (nI 1), .int (nI lt)])).length) Slot.unset).toArray = ls at hl ⊢
  have hl : lv_has ls 3 [(0, .ref hm), (1, .int (nI 1)), (2, .int (nI lt))] := hl
  have hin3 : ∀ w ∈ wsX30, w ∈ wsX3_state := by decide +kernel
  have kf54 := hts (.fieldLink RX3 54 "SweepEqualModel" "latches" "I") (by decide +kernel)
  have kf44 := hts (.fieldLink RX3 44 "SweepEqualModel" "thrown" "I") (by decide +kernel)
  have kf26 := hts (.fieldLink RX3 26 "SweepEqualModel" "states" "[I") (by decide +kernel)
  refine lv_aload_n hx hb dX3_state_0 rfl (lv_at hl 0 rfl) ?_
  refine lv_iload_n hx hb dX3_state_1 rfl (lv_at hl 1 rfl) ?_
  refine rd_S (As := [.int (nI 1)]) (rest := [.ref hm]) ⟨hx, hb, hml, hown, hts⟩ (c_X3_isSide l (nI 1)) (va_cwS 1 hts gX3_state_X3_isSide rfl rfl rfl (by decide +kernel) ⟨Nat.le_of_ble_eq_true rfl, Nat.le_of_ble_eq_true rfl⟩) preEq rfl hl.1 rfl (Nat.le_of_ble_eq_true rfl) dX3_state_2 ⟨by show _ ≤ _; simp only [headSpec]; omega, by show _ ≤ _; simp only [headSpec]; omega⟩ ?_
  refine tp_i (show zI (decide (nI 1 = 0 ∨ nI 1 = 1)) = nI 1 from by decide) ?_
  refine lv_if_eq (tgt := 23) hx hb dX3_state_5 (by decide) (fun hc => absurd hc (by decide)) (fun _ => ?_)
  refine lv_iload_n hx hb dX3_state_8 rfl (lv_at hl 2 rfl) ?_
  refine lv_aload_n hx hb dX3_state_9 rfl (lv_at hl 0 rfl) ?_
  refine va_get (D := D) (ci := 3) (v := .int (nI ml)) (C := RX3) (T := TX3) (N := 16) hx hb hts hin3 hown hK hP 0 rfl rfl 5 (by decide) kf54 (fun _ h9 => h9) rfl dX3_state_10 ?_
  refine rd_S (As := [.int (nI lt), .int (nI ml)]) (rest := [.ref hm]) ⟨hx, hb, hml, hown, hts⟩ (c_X3_isIn l (nI lt) (nI ml)) (va_cwS 2 hts gX3_state_X3_isIn rfl rfl rfl (by decide +kernel) ⟨Nat.le_of_ble_eq_true rfl, Nat.le_of_ble_eq_true rfl⟩) preEq rfl hl.1 rfl (Nat.le_of_ble_eq_true rfl) dX3_state_13 ⟨by show _ ≤ _; simp only [headSpec]; omega, by show _ ≤ _; simp only [headSpec]; omega⟩ ?_
  refine tp_i (show zI (decide (¬ nI lt < 0 ∧ ¬ nI ml ≤ nI lt)) = nI 1 from lit_t hlt (by omega)) ?_
  refine lv_if_eq (tgt := 23) hx hb dX3_state_16 (by decide) (fun hc => absurd hc (by decide)) (fun _ => ?_)
  refine lv_iconst (v := nI 0) hx hb dX3_state_19 (by decide) ?_
  refine lv_goto (tgt := 24) hx hb dX3_state_20 (by decide) ?_
  refine va_put (D := D) (ci := 3) (v := .int (nI 0)) (ty := .int) (C := RX3) (T := TX3) (N := 16) hx hb hts hin3 tyX3 tyX3_ok nmX3 hown hK hP hD hS 0 rfl rfl 0 (by decide) kf44 (fun _ h9 => h9) rfl (by decide +kernel) rfl rfl (Nat.le_of_ble_eq_true rfl) dX3_state_24 (fun H locs hP hD hS => ?_)
  have hP : va_P D vwCl [(hm, .inr (3, [.int (nI 0), .int (nI nd), .ref q0, .ref q1, .int (nI mi), .int (nI ml), .ref q2, .ref q3, .ref q4, .ref q5, .ref q6, .ref q7, .ref q8, .ref q9, .int (nI sp), .int fa])), (q0, .inl (cI, 401, .inl fs)), (q1, .inl (cJ, 25664, .inr (.inl ft))), (q2, .inl (cI, 4, .inl fl)), (q3, .inl (cI, 8, .inl (fun j => nI (gS j)))), (q4, .inl (cI, 8, .inl (fun j => nI (gX j)))), (q5, .inl (cI, 8, .inl (fun j => nI (gT j)))), (q6, .inl (cI, 2, .inl (fun j => nI (gC j)))), (q7, .inl (cI, 32, .inl (fun j => nI (gO j)))), (q8, .inl (cI, 32, .inl fD)), (q9, .inl (cI, 2, .inl (fun j => nI (gE j))))] H := hP
  have hD : va_D A [(hm, .inr (3, [.int (nI 0), .int (nI nd), .ref q0, .ref q1, .int (nI mi), .int (nI ml), .ref q2, .ref q3, .ref q4, .ref q5, .ref q6, .ref q7, .ref q8, .ref q9, .int (nI sp), .int fa])), (q0, .inl (cI, 401, .inl fs)), (q1, .inl (cJ, 25664, .inr (.inl ft))), (q2, .inl (cI, 4, .inl fl)), (q3, .inl (cI, 8, .inl (fun j => nI (gS j)))), (q4, .inl (cI, 8, .inl (fun j => nI (gX j)))), (q5, .inl (cI, 8, .inl (fun j => nI (gT j)))), (q6, .inl (cI, 2, .inl (fun j => nI (gC j)))), (q7, .inl (cI, 32, .inl (fun j => nI (gO j)))), (q8, .inl (cI, 32, .inl fD)), (q9, .inl (cI, 2, .inl (fun j => nI (gE j))))] := hD
  refine lv_aload_n hx hb dX3_state_27 rfl (lv_at hl 0 rfl) ?_
  refine va_get (D := D) (ci := 3) (v := .int (nI 0)) (C := RX3) (T := TX3) (N := 16) hx hb hts hin3 hown hK hP 0 rfl rfl 0 (by decide) kf44 (fun _ h9 => h9) rfl dX3_state_28 ?_
  refine lv_if_le (tgt := 38) hx hb dX3_state_31 (by decide) (fun _ => ?_) (fun hc => absurd hc (by decide))
  refine lv_aload_n hx hb dX3_state_38 rfl (lv_at hl 0 rfl) ?_
  refine va_get (D := D) (ci := 3) (v := .ref q5) (C := RX3) (T := TX3) (N := 16) hx hb hts hin3 hown hK hP 0 rfl rfl 9 (by decide) kf26 (fun _ h9 => h9) rfl dX3_state_39 ?_
  refine lv_iconst (v := nI 4) hx hb dX3_state_42 (by decide) ?_
  refine lv_iload_n hx hb dX3_state_43 rfl (lv_at hl 1 rfl) ?_
  refine lv_imul hx hb dX3_state_44 ?_
  refine tp_i (show (nI 4) * (nI 1) = nI 4 from by decide) ?_
  refine lv_iload_n hx hb dX3_state_45 rfl (lv_at hl 2 rfl) ?_
  refine lv_iadd hx hb dX3_state_46 ?_
  refine tp_i (show (nI 4) + (nI lt) = nI (4 + lt) from nI_add _ _) ?_
  refine va_iald hx hb hK hP 6 0 rfl rfl (vp_in_nI (by omega) (by omega)) dX3_state_47 ?_
  refine tp_i (show (fun j => nI (gT j)) (nI (4 + lt)).toNatClampNeg = nI (gT (4 + lt)) from congrArg (fun j => nI (gT j)) (nI_clamp (by omega))) ?_
  exact wr_i (()) hx hb hr hlocks hP hD hS dX3_state_48 (rfl) (trivial)
set_option maxHeartbeats 4000000 in
set_option maxRecDepth 100000 in
/-- count 0 -/
theorem w_X3_count0 (hnd : nd ≤ 400) (sz : Nat) : Met l yX3_count wsX3_count { frames := 1, cells := 0, slots := 0, locals := 23 } (wr_P D [(cI, .int), (cJ, .long)] (mW hm q0 q1 q2 q3 q4 q5 q6 q7 q8 q9 cI cJ th nd fs ft mi ml fl gS gX gT gC gO fD gE sp fa) sz tp [.ref hm, .int (nI 0)]) (wx (Su := Unit) D [(cI, .int), (cJ, .long)] (va_A (mW hm q0 q1 q2 q3 q4 q5 q6 q7 q8 q9 cI cJ th nd fs ft mi ml fl gS gX gT gC gO fD gE sp fa) sz) (fun _ => some (.int (nI (nd)))) (fun _ => True) (fun _ => mW hm q0 q1 q2 q3 q4 q5 q6 q7 q8 q9 cI cJ (nI 0) nd fs ft mi ml fl gS gX gT gC gO fD gE sp fa)) 0 0 (va_A (mW hm q0 q1 q2 q3 q4 q5 q6 q7 q8 q9 cI cJ th nd fs ft mi ml fl gS gX gT gC gO fD gE sp fa) sz) := by
  refine Met.ofW (cc := cX3_count) (maxL := 2) (ret := (some .int)) (by decide) rfl ?_
  intro p e s m args below meth c s₁ B hml hv
  obtain ⟨rfl, hsz, ⟨hP, hK, hD0⟩, hE⟩ := hv
  have hx := B.exec
  have hb := B.bytes
  have hr := B.returns
  have hts := atoms_spec (ws := wsX3_count) B.pre
  have hown : s.vm.findClass RX3 = some m.cls := findClass_of_methodNamed B.named
  have hlocks := B.notSynchronized
  subst hsz
  have hD := hD0.self (sz := s.heap.size)
  generalize hAe : va_A (mW hm q0 q1 q2 q3 q4 q5 q6 q7 q8 q9 cI cJ th nd fs ft mi ml fl gS gX gT gC gO fD gE sp fa) s.heap.size = A at hD hE ⊢
  have hA : ∀ q : Nat, s.heap.size ≤ q → A q := fun q h => by rw [← hAe]; exact Or.inr h
  have hS : va_S A s.heap s.heap [] := va_S.rf
  have hP : va_P D vwCl [(hm, .inr (3, [.int th, .int (nI nd), .ref q0, .ref q1, .int (nI mi), .int (nI ml), .ref q2, .ref q3, .ref q4, .ref q5, .ref q6, .ref q7, .ref q8, .ref q9, .int (nI sp), .int fa])), (q0, .inl (cI, 401, .inl fs)), (q1, .inl (cJ, 25664, .inr (.inl ft))), (q2, .inl (cI, 4, .inl fl)), (q3, .inl (cI, 8, .inl (fun j => nI (gS j)))), (q4, .inl (cI, 8, .inl (fun j => nI (gX j)))), (q5, .inl (cI, 8, .inl (fun j => nI (gT j)))), (q6, .inl (cI, 2, .inl (fun j => nI (gC j)))), (q7, .inl (cI, 32, .inl (fun j => nI (gO j)))), (q8, .inl (cI, 32, .inl fD)), (q9, .inl (cI, 2, .inl (fun j => nI (gE j))))] s.heap := hP
  have hD : va_D A [(hm, .inr (3, [.int th, .int (nI nd), .ref q0, .ref q1, .int (nI mi), .int (nI ml), .ref q2, .ref q3, .ref q4, .ref q5, .ref q6, .ref q7, .ref q8, .ref q9, .int (nI sp), .int fa])), (q0, .inl (cI, 401, .inl fs)), (q1, .inl (cJ, 25664, .inr (.inl ft))), (q2, .inl (cI, 4, .inl fl)), (q3, .inl (cI, 8, .inl (fun j => nI (gS j)))), (q4, .inl (cI, 8, .inl (fun j => nI (gX j)))), (q5, .inl (cI, 8, .inl (fun j => nI (gT j)))), (q6, .inl (cI, 2, .inl (fun j => nI (gC j)))), (q7, .inl (cI, 32, .inl (fun j => nI (gO j)))), (q8, .inl (cI, 32, .inl fD)), (q9, .inl (cI, 2, .inl (fun j => nI (gE j))))] := hD
  have hl := lv_entry ([.ref hm, .int (nI 0)]) (n := 2) (Nat.le_of_ble_eq_true rfl)
  rw [lg_entry_eq]
  generalize (lg_sl ([.ref hm, .int (nI 0)]) ++ List.replicate (2 - (lg_sl ([.ref hm, .int (nI 0)])).length) Slot.unset).toArray = ls at hl ⊢
  have hl : lv_has ls 2 [(0, .ref hm), (1, .int (nI 0))] := hl
  have hin3 : ∀ w ∈ wsX30, w ∈ wsX3_count := by decide +kernel
  have kf44 := hts (.fieldLink RX3 44 "SweepEqualModel" "thrown" "I") (by decide +kernel)
  have kf48 := hts (.fieldLink RX3 48 "SweepEqualModel" "nodes" "I") (by decide +kernel)
  have kf51 := hts (.fieldLink RX3 51 "SweepEqualModel" "inputs" "I") (by decide +kernel)
  have kf54 := hts (.fieldLink RX3 54 "SweepEqualModel" "latches" "I") (by decide +kernel)
  have kf29 := hts (.fieldLink RX3 29 "SweepEqualModel" "outputCounts" "[I") (by decide +kernel)
  refine lv_aload_n hx hb dX3_count_0 rfl (lv_at hl 0 rfl) ?_
  refine lv_iload_n hx hb dX3_count_1 rfl (lv_at hl 1 rfl) ?_
  refine lv_bipush (v := nI 7) hx hb dX3_count_2 (by decide) ?_
  refine rd_S (As := [.int (nI 0), .int (nI 7)]) (rest := [.ref hm]) ⟨hx, hb, hml, hown, hts⟩ (c_X3_isIn l (nI 0) (nI 7)) (va_cwS 2 hts gX3_count_X3_isIn rfl rfl rfl (by decide +kernel) ⟨Nat.le_of_ble_eq_true rfl, Nat.le_of_ble_eq_true rfl⟩) preEq rfl hl.1 rfl (Nat.le_of_ble_eq_true rfl) dX3_count_4 ⟨by show _ ≤ _; simp only [headSpec]; omega, by show _ ≤ _; simp only [headSpec]; omega⟩ ?_
  refine tp_i (show zI (decide (¬ nI 0 < 0 ∧ ¬ nI 7 ≤ nI 0)) = nI 1 from by decide) ?_
  refine lv_if_eq (tgt := 14) hx hb dX3_count_7 (by decide) (fun hc => absurd hc (by decide)) (fun _ => ?_)
  refine lv_iconst (v := nI 0) hx hb dX3_count_10 (by decide) ?_
  refine lv_goto (tgt := 15) hx hb dX3_count_11 (by decide) ?_
  refine va_put (D := D) (ci := 3) (v := .int (nI 0)) (ty := .int) (C := RX3) (T := TX3) (N := 16) hx hb hts hin3 tyX3 tyX3_ok nmX3 hown hK hP hD hS 0 rfl rfl 0 (by decide) kf44 (fun _ h9 => h9) rfl (by decide +kernel) rfl rfl (Nat.le_of_ble_eq_true rfl) dX3_count_15 (fun H locs hP hD hS => ?_)
  have hP : va_P D vwCl [(hm, .inr (3, [.int (nI 0), .int (nI nd), .ref q0, .ref q1, .int (nI mi), .int (nI ml), .ref q2, .ref q3, .ref q4, .ref q5, .ref q6, .ref q7, .ref q8, .ref q9, .int (nI sp), .int fa])), (q0, .inl (cI, 401, .inl fs)), (q1, .inl (cJ, 25664, .inr (.inl ft))), (q2, .inl (cI, 4, .inl fl)), (q3, .inl (cI, 8, .inl (fun j => nI (gS j)))), (q4, .inl (cI, 8, .inl (fun j => nI (gX j)))), (q5, .inl (cI, 8, .inl (fun j => nI (gT j)))), (q6, .inl (cI, 2, .inl (fun j => nI (gC j)))), (q7, .inl (cI, 32, .inl (fun j => nI (gO j)))), (q8, .inl (cI, 32, .inl fD)), (q9, .inl (cI, 2, .inl (fun j => nI (gE j))))] H := hP
  have hD : va_D A [(hm, .inr (3, [.int (nI 0), .int (nI nd), .ref q0, .ref q1, .int (nI mi), .int (nI ml), .ref q2, .ref q3, .ref q4, .ref q5, .ref q6, .ref q7, .ref q8, .ref q9, .int (nI sp), .int fa])), (q0, .inl (cI, 401, .inl fs)), (q1, .inl (cJ, 25664, .inr (.inl ft))), (q2, .inl (cI, 4, .inl fl)), (q3, .inl (cI, 8, .inl (fun j => nI (gS j)))), (q4, .inl (cI, 8, .inl (fun j => nI (gX j)))), (q5, .inl (cI, 8, .inl (fun j => nI (gT j)))), (q6, .inl (cI, 2, .inl (fun j => nI (gC j)))), (q7, .inl (cI, 32, .inl (fun j => nI (gO j)))), (q8, .inl (cI, 32, .inl fD)), (q9, .inl (cI, 2, .inl (fun j => nI (gE j))))] := hD
  refine lv_iload_n hx hb dX3_count_18 rfl (lv_at hl 1 rfl) ?_
  refine lv_tableIn (tgt := 60) hx hb dX3_count_19 (by decide) (by decide) rfl (by decide) ?_
  refine lv_aload_n hx hb dX3_count_60 rfl (lv_at hl 0 rfl) ?_
  refine va_get (D := D) (ci := 3) (v := .int (nI nd)) (C := RX3) (T := TX3) (N := 16) hx hb hts hin3 hown hK hP 0 rfl rfl 1 (by decide) kf48 (fun _ h9 => h9) rfl dX3_count_61 ?_
  exact wr_i (()) hx hb hr hlocks hP hD hS dX3_count_64 (rfl) (trivial)
set_option maxHeartbeats 4000000 in
set_option maxRecDepth 100000 in
/-- count 1 -/
theorem w_X3_count1 (hnd : nd ≤ 400) (sz : Nat) : Met l yX3_count wsX3_count { frames := 1, cells := 0, slots := 0, locals := 23 } (wr_P D [(cI, .int), (cJ, .long)] (mW hm q0 q1 q2 q3 q4 q5 q6 q7 q8 q9 cI cJ th nd fs ft mi ml fl gS gX gT gC gO fD gE sp fa) sz tp [.ref hm, .int (nI 1)]) (wx (Su := Unit) D [(cI, .int), (cJ, .long)] (va_A (mW hm q0 q1 q2 q3 q4 q5 q6 q7 q8 q9 cI cJ th nd fs ft mi ml fl gS gX gT gC gO fD gE sp fa) sz) (fun _ => some (.int (nI (mi)))) (fun _ => True) (fun _ => mW hm q0 q1 q2 q3 q4 q5 q6 q7 q8 q9 cI cJ (nI 0) nd fs ft mi ml fl gS gX gT gC gO fD gE sp fa)) 0 0 (va_A (mW hm q0 q1 q2 q3 q4 q5 q6 q7 q8 q9 cI cJ th nd fs ft mi ml fl gS gX gT gC gO fD gE sp fa) sz) := by
  refine Met.ofW (cc := cX3_count) (maxL := 2) (ret := (some .int)) (by decide) rfl ?_
  intro p e s m args below meth c s₁ B hml hv
  obtain ⟨rfl, hsz, ⟨hP, hK, hD0⟩, hE⟩ := hv
  have hx := B.exec
  have hb := B.bytes
  have hr := B.returns
  have hts := atoms_spec (ws := wsX3_count) B.pre
  have hown : s.vm.findClass RX3 = some m.cls := findClass_of_methodNamed B.named
  have hlocks := B.notSynchronized
  subst hsz
  have hD := hD0.self (sz := s.heap.size)
  generalize hAe : va_A (mW hm q0 q1 q2 q3 q4 q5 q6 q7 q8 q9 cI cJ th nd fs ft mi ml fl gS gX gT gC gO fD gE sp fa) s.heap.size = A at hD hE ⊢
  have hA : ∀ q : Nat, s.heap.size ≤ q → A q := fun q h => by rw [← hAe]; exact Or.inr h
  have hS : va_S A s.heap s.heap [] := va_S.rf
  have hP : va_P D vwCl [(hm, .inr (3, [.int th, .int (nI nd), .ref q0, .ref q1, .int (nI mi), .int (nI ml), .ref q2, .ref q3, .ref q4, .ref q5, .ref q6, .ref q7, .ref q8, .ref q9, .int (nI sp), .int fa])), (q0, .inl (cI, 401, .inl fs)), (q1, .inl (cJ, 25664, .inr (.inl ft))), (q2, .inl (cI, 4, .inl fl)), (q3, .inl (cI, 8, .inl (fun j => nI (gS j)))), (q4, .inl (cI, 8, .inl (fun j => nI (gX j)))), (q5, .inl (cI, 8, .inl (fun j => nI (gT j)))), (q6, .inl (cI, 2, .inl (fun j => nI (gC j)))), (q7, .inl (cI, 32, .inl (fun j => nI (gO j)))), (q8, .inl (cI, 32, .inl fD)), (q9, .inl (cI, 2, .inl (fun j => nI (gE j))))] s.heap := hP
  have hD : va_D A [(hm, .inr (3, [.int th, .int (nI nd), .ref q0, .ref q1, .int (nI mi), .int (nI ml), .ref q2, .ref q3, .ref q4, .ref q5, .ref q6, .ref q7, .ref q8, .ref q9, .int (nI sp), .int fa])), (q0, .inl (cI, 401, .inl fs)), (q1, .inl (cJ, 25664, .inr (.inl ft))), (q2, .inl (cI, 4, .inl fl)), (q3, .inl (cI, 8, .inl (fun j => nI (gS j)))), (q4, .inl (cI, 8, .inl (fun j => nI (gX j)))), (q5, .inl (cI, 8, .inl (fun j => nI (gT j)))), (q6, .inl (cI, 2, .inl (fun j => nI (gC j)))), (q7, .inl (cI, 32, .inl (fun j => nI (gO j)))), (q8, .inl (cI, 32, .inl fD)), (q9, .inl (cI, 2, .inl (fun j => nI (gE j))))] := hD
  have hl := lv_entry ([.ref hm, .int (nI 1)]) (n := 2) (Nat.le_of_ble_eq_true rfl)
  rw [lg_entry_eq]
  generalize (lg_sl ([.ref hm, .int (nI 1)]) ++ List.replicate (2 - (lg_sl ([.ref hm, .int (nI 1)])).length) Slot.unset).toArray = ls at hl ⊢
  have hl : lv_has ls 2 [(0, .ref hm), (1, .int (nI 1))] := hl
  have hin3 : ∀ w ∈ wsX30, w ∈ wsX3_count := by decide +kernel
  have kf44 := hts (.fieldLink RX3 44 "SweepEqualModel" "thrown" "I") (by decide +kernel)
  have kf48 := hts (.fieldLink RX3 48 "SweepEqualModel" "nodes" "I") (by decide +kernel)
  have kf51 := hts (.fieldLink RX3 51 "SweepEqualModel" "inputs" "I") (by decide +kernel)
  have kf54 := hts (.fieldLink RX3 54 "SweepEqualModel" "latches" "I") (by decide +kernel)
  have kf29 := hts (.fieldLink RX3 29 "SweepEqualModel" "outputCounts" "[I") (by decide +kernel)
  refine lv_aload_n hx hb dX3_count_0 rfl (lv_at hl 0 rfl) ?_
  refine lv_iload_n hx hb dX3_count_1 rfl (lv_at hl 1 rfl) ?_
  refine lv_bipush (v := nI 7) hx hb dX3_count_2 (by decide) ?_
  refine rd_S (As := [.int (nI 1), .int (nI 7)]) (rest := [.ref hm]) ⟨hx, hb, hml, hown, hts⟩ (c_X3_isIn l (nI 1) (nI 7)) (va_cwS 2 hts gX3_count_X3_isIn rfl rfl rfl (by decide +kernel) ⟨Nat.le_of_ble_eq_true rfl, Nat.le_of_ble_eq_true rfl⟩) preEq rfl hl.1 rfl (Nat.le_of_ble_eq_true rfl) dX3_count_4 ⟨by show _ ≤ _; simp only [headSpec]; omega, by show _ ≤ _; simp only [headSpec]; omega⟩ ?_
  refine tp_i (show zI (decide (¬ nI 1 < 0 ∧ ¬ nI 7 ≤ nI 1)) = nI 1 from by decide) ?_
  refine lv_if_eq (tgt := 14) hx hb dX3_count_7 (by decide) (fun hc => absurd hc (by decide)) (fun _ => ?_)
  refine lv_iconst (v := nI 0) hx hb dX3_count_10 (by decide) ?_
  refine lv_goto (tgt := 15) hx hb dX3_count_11 (by decide) ?_
  refine va_put (D := D) (ci := 3) (v := .int (nI 0)) (ty := .int) (C := RX3) (T := TX3) (N := 16) hx hb hts hin3 tyX3 tyX3_ok nmX3 hown hK hP hD hS 0 rfl rfl 0 (by decide) kf44 (fun _ h9 => h9) rfl (by decide +kernel) rfl rfl (Nat.le_of_ble_eq_true rfl) dX3_count_15 (fun H locs hP hD hS => ?_)
  have hP : va_P D vwCl [(hm, .inr (3, [.int (nI 0), .int (nI nd), .ref q0, .ref q1, .int (nI mi), .int (nI ml), .ref q2, .ref q3, .ref q4, .ref q5, .ref q6, .ref q7, .ref q8, .ref q9, .int (nI sp), .int fa])), (q0, .inl (cI, 401, .inl fs)), (q1, .inl (cJ, 25664, .inr (.inl ft))), (q2, .inl (cI, 4, .inl fl)), (q3, .inl (cI, 8, .inl (fun j => nI (gS j)))), (q4, .inl (cI, 8, .inl (fun j => nI (gX j)))), (q5, .inl (cI, 8, .inl (fun j => nI (gT j)))), (q6, .inl (cI, 2, .inl (fun j => nI (gC j)))), (q7, .inl (cI, 32, .inl (fun j => nI (gO j)))), (q8, .inl (cI, 32, .inl fD)), (q9, .inl (cI, 2, .inl (fun j => nI (gE j))))] H := hP
  have hD : va_D A [(hm, .inr (3, [.int (nI 0), .int (nI nd), .ref q0, .ref q1, .int (nI mi), .int (nI ml), .ref q2, .ref q3, .ref q4, .ref q5, .ref q6, .ref q7, .ref q8, .ref q9, .int (nI sp), .int fa])), (q0, .inl (cI, 401, .inl fs)), (q1, .inl (cJ, 25664, .inr (.inl ft))), (q2, .inl (cI, 4, .inl fl)), (q3, .inl (cI, 8, .inl (fun j => nI (gS j)))), (q4, .inl (cI, 8, .inl (fun j => nI (gX j)))), (q5, .inl (cI, 8, .inl (fun j => nI (gT j)))), (q6, .inl (cI, 2, .inl (fun j => nI (gC j)))), (q7, .inl (cI, 32, .inl (fun j => nI (gO j)))), (q8, .inl (cI, 32, .inl fD)), (q9, .inl (cI, 2, .inl (fun j => nI (gE j))))] := hD
  refine lv_iload_n hx hb dX3_count_18 rfl (lv_at hl 1 rfl) ?_
  refine lv_tableIn (tgt := 65) hx hb dX3_count_19 (by decide) (by decide) rfl (by decide) ?_
  refine lv_aload_n hx hb dX3_count_65 rfl (lv_at hl 0 rfl) ?_
  refine va_get (D := D) (ci := 3) (v := .int (nI mi)) (C := RX3) (T := TX3) (N := 16) hx hb hts hin3 hown hK hP 0 rfl rfl 4 (by decide) kf51 (fun _ h9 => h9) rfl dX3_count_66 ?_
  exact wr_i (()) hx hb hr hlocks hP hD hS dX3_count_69 (rfl) (trivial)
set_option maxHeartbeats 4000000 in
set_option maxRecDepth 100000 in
/-- count 2 -/
theorem w_X3_count2 (hnd : nd ≤ 400) (sz : Nat) : Met l yX3_count wsX3_count { frames := 1, cells := 0, slots := 0, locals := 23 } (wr_P D [(cI, .int), (cJ, .long)] (mW hm q0 q1 q2 q3 q4 q5 q6 q7 q8 q9 cI cJ th nd fs ft mi ml fl gS gX gT gC gO fD gE sp fa) sz tp [.ref hm, .int (nI 2)]) (wx (Su := Unit) D [(cI, .int), (cJ, .long)] (va_A (mW hm q0 q1 q2 q3 q4 q5 q6 q7 q8 q9 cI cJ th nd fs ft mi ml fl gS gX gT gC gO fD gE sp fa) sz) (fun _ => some (.int (nI (ml)))) (fun _ => True) (fun _ => mW hm q0 q1 q2 q3 q4 q5 q6 q7 q8 q9 cI cJ (nI 0) nd fs ft mi ml fl gS gX gT gC gO fD gE sp fa)) 0 0 (va_A (mW hm q0 q1 q2 q3 q4 q5 q6 q7 q8 q9 cI cJ th nd fs ft mi ml fl gS gX gT gC gO fD gE sp fa) sz) := by
  refine Met.ofW (cc := cX3_count) (maxL := 2) (ret := (some .int)) (by decide) rfl ?_
  intro p e s m args below meth c s₁ B hml hv
  obtain ⟨rfl, hsz, ⟨hP, hK, hD0⟩, hE⟩ := hv
  have hx := B.exec
  have hb := B.bytes
  have hr := B.returns
  have hts := atoms_spec (ws := wsX3_count) B.pre
  have hown : s.vm.findClass RX3 = some m.cls := findClass_of_methodNamed B.named
  have hlocks := B.notSynchronized
  subst hsz
  have hD := hD0.self (sz := s.heap.size)
  generalize hAe : va_A (mW hm q0 q1 q2 q3 q4 q5 q6 q7 q8 q9 cI cJ th nd fs ft mi ml fl gS gX gT gC gO fD gE sp fa) s.heap.size = A at hD hE ⊢
  have hA : ∀ q : Nat, s.heap.size ≤ q → A q := fun q h => by rw [← hAe]; exact Or.inr h
  have hS : va_S A s.heap s.heap [] := va_S.rf
  have hP : va_P D vwCl [(hm, .inr (3, [.int th, .int (nI nd), .ref q0, .ref q1, .int (nI mi), .int (nI ml), .ref q2, .ref q3, .ref q4, .ref q5, .ref q6, .ref q7, .ref q8, .ref q9, .int (nI sp), .int fa])), (q0, .inl (cI, 401, .inl fs)), (q1, .inl (cJ, 25664, .inr (.inl ft))), (q2, .inl (cI, 4, .inl fl)), (q3, .inl (cI, 8, .inl (fun j => nI (gS j)))), (q4, .inl (cI, 8, .inl (fun j => nI (gX j)))), (q5, .inl (cI, 8, .inl (fun j => nI (gT j)))), (q6, .inl (cI, 2, .inl (fun j => nI (gC j)))), (q7, .inl (cI, 32, .inl (fun j => nI (gO j)))), (q8, .inl (cI, 32, .inl fD)), (q9, .inl (cI, 2, .inl (fun j => nI (gE j))))] s.heap := hP
  have hD : va_D A [(hm, .inr (3, [.int th, .int (nI nd), .ref q0, .ref q1, .int (nI mi), .int (nI ml), .ref q2, .ref q3, .ref q4, .ref q5, .ref q6, .ref q7, .ref q8, .ref q9, .int (nI sp), .int fa])), (q0, .inl (cI, 401, .inl fs)), (q1, .inl (cJ, 25664, .inr (.inl ft))), (q2, .inl (cI, 4, .inl fl)), (q3, .inl (cI, 8, .inl (fun j => nI (gS j)))), (q4, .inl (cI, 8, .inl (fun j => nI (gX j)))), (q5, .inl (cI, 8, .inl (fun j => nI (gT j)))), (q6, .inl (cI, 2, .inl (fun j => nI (gC j)))), (q7, .inl (cI, 32, .inl (fun j => nI (gO j)))), (q8, .inl (cI, 32, .inl fD)), (q9, .inl (cI, 2, .inl (fun j => nI (gE j))))] := hD
  have hl := lv_entry ([.ref hm, .int (nI 2)]) (n := 2) (Nat.le_of_ble_eq_true rfl)
  rw [lg_entry_eq]
  generalize (lg_sl ([.ref hm, .int (nI 2)]) ++ List.replicate (2 - (lg_sl ([.ref hm, .int (nI 2)])).length) Slot.unset).toArray = ls at hl ⊢
  have hl : lv_has ls 2 [(0, .ref hm), (1, .int (nI 2))] := hl
  have hin3 : ∀ w ∈ wsX30, w ∈ wsX3_count := by decide +kernel
  have kf44 := hts (.fieldLink RX3 44 "SweepEqualModel" "thrown" "I") (by decide +kernel)
  have kf48 := hts (.fieldLink RX3 48 "SweepEqualModel" "nodes" "I") (by decide +kernel)
  have kf51 := hts (.fieldLink RX3 51 "SweepEqualModel" "inputs" "I") (by decide +kernel)
  have kf54 := hts (.fieldLink RX3 54 "SweepEqualModel" "latches" "I") (by decide +kernel)
  have kf29 := hts (.fieldLink RX3 29 "SweepEqualModel" "outputCounts" "[I") (by decide +kernel)
  refine lv_aload_n hx hb dX3_count_0 rfl (lv_at hl 0 rfl) ?_
  refine lv_iload_n hx hb dX3_count_1 rfl (lv_at hl 1 rfl) ?_
  refine lv_bipush (v := nI 7) hx hb dX3_count_2 (by decide) ?_
  refine rd_S (As := [.int (nI 2), .int (nI 7)]) (rest := [.ref hm]) ⟨hx, hb, hml, hown, hts⟩ (c_X3_isIn l (nI 2) (nI 7)) (va_cwS 2 hts gX3_count_X3_isIn rfl rfl rfl (by decide +kernel) ⟨Nat.le_of_ble_eq_true rfl, Nat.le_of_ble_eq_true rfl⟩) preEq rfl hl.1 rfl (Nat.le_of_ble_eq_true rfl) dX3_count_4 ⟨by show _ ≤ _; simp only [headSpec]; omega, by show _ ≤ _; simp only [headSpec]; omega⟩ ?_
  refine tp_i (show zI (decide (¬ nI 2 < 0 ∧ ¬ nI 7 ≤ nI 2)) = nI 1 from by decide) ?_
  refine lv_if_eq (tgt := 14) hx hb dX3_count_7 (by decide) (fun hc => absurd hc (by decide)) (fun _ => ?_)
  refine lv_iconst (v := nI 0) hx hb dX3_count_10 (by decide) ?_
  refine lv_goto (tgt := 15) hx hb dX3_count_11 (by decide) ?_
  refine va_put (D := D) (ci := 3) (v := .int (nI 0)) (ty := .int) (C := RX3) (T := TX3) (N := 16) hx hb hts hin3 tyX3 tyX3_ok nmX3 hown hK hP hD hS 0 rfl rfl 0 (by decide) kf44 (fun _ h9 => h9) rfl (by decide +kernel) rfl rfl (Nat.le_of_ble_eq_true rfl) dX3_count_15 (fun H locs hP hD hS => ?_)
  have hP : va_P D vwCl [(hm, .inr (3, [.int (nI 0), .int (nI nd), .ref q0, .ref q1, .int (nI mi), .int (nI ml), .ref q2, .ref q3, .ref q4, .ref q5, .ref q6, .ref q7, .ref q8, .ref q9, .int (nI sp), .int fa])), (q0, .inl (cI, 401, .inl fs)), (q1, .inl (cJ, 25664, .inr (.inl ft))), (q2, .inl (cI, 4, .inl fl)), (q3, .inl (cI, 8, .inl (fun j => nI (gS j)))), (q4, .inl (cI, 8, .inl (fun j => nI (gX j)))), (q5, .inl (cI, 8, .inl (fun j => nI (gT j)))), (q6, .inl (cI, 2, .inl (fun j => nI (gC j)))), (q7, .inl (cI, 32, .inl (fun j => nI (gO j)))), (q8, .inl (cI, 32, .inl fD)), (q9, .inl (cI, 2, .inl (fun j => nI (gE j))))] H := hP
  have hD : va_D A [(hm, .inr (3, [.int (nI 0), .int (nI nd), .ref q0, .ref q1, .int (nI mi), .int (nI ml), .ref q2, .ref q3, .ref q4, .ref q5, .ref q6, .ref q7, .ref q8, .ref q9, .int (nI sp), .int fa])), (q0, .inl (cI, 401, .inl fs)), (q1, .inl (cJ, 25664, .inr (.inl ft))), (q2, .inl (cI, 4, .inl fl)), (q3, .inl (cI, 8, .inl (fun j => nI (gS j)))), (q4, .inl (cI, 8, .inl (fun j => nI (gX j)))), (q5, .inl (cI, 8, .inl (fun j => nI (gT j)))), (q6, .inl (cI, 2, .inl (fun j => nI (gC j)))), (q7, .inl (cI, 32, .inl (fun j => nI (gO j)))), (q8, .inl (cI, 32, .inl fD)), (q9, .inl (cI, 2, .inl (fun j => nI (gE j))))] := hD
  refine lv_iload_n hx hb dX3_count_18 rfl (lv_at hl 1 rfl) ?_
  refine lv_tableIn (tgt := 70) hx hb dX3_count_19 (by decide) (by decide) rfl (by decide) ?_
  refine lv_aload_n hx hb dX3_count_70 rfl (lv_at hl 0 rfl) ?_
  refine va_get (D := D) (ci := 3) (v := .int (nI ml)) (C := RX3) (T := TX3) (N := 16) hx hb hts hin3 hown hK hP 0 rfl rfl 5 (by decide) kf54 (fun _ h9 => h9) rfl dX3_count_71 ?_
  exact wr_i (()) hx hb hr hlocks hP hD hS dX3_count_74 (rfl) (trivial)
set_option maxHeartbeats 4000000 in
set_option maxRecDepth 100000 in
/-- count 3 -/
theorem w_X3_count3 (hnd : nd ≤ 400) (sz : Nat) : Met l yX3_count wsX3_count { frames := 1, cells := 0, slots := 0, locals := 23 } (wr_P D [(cI, .int), (cJ, .long)] (mW hm q0 q1 q2 q3 q4 q5 q6 q7 q8 q9 cI cJ th nd fs ft mi ml fl gS gX gT gC gO fD gE sp fa) sz tp [.ref hm, .int (nI 3)]) (wx (Su := Unit) D [(cI, .int), (cJ, .long)] (va_A (mW hm q0 q1 q2 q3 q4 q5 q6 q7 q8 q9 cI cJ th nd fs ft mi ml fl gS gX gT gC gO fD gE sp fa) sz) (fun _ => some (.int (nI (cAnd fs (nI 0) nd)))) (fun _ => True) (fun _ => mW hm q0 q1 q2 q3 q4 q5 q6 q7 q8 q9 cI cJ (nI 0) nd fs ft mi ml fl gS gX gT gC gO fD gE sp fa)) 0 0 (va_A (mW hm q0 q1 q2 q3 q4 q5 q6 q7 q8 q9 cI cJ th nd fs ft mi ml fl gS gX gT gC gO fD gE sp fa) sz) := by
  refine Met.ofW (cc := cX3_count) (maxL := 2) (ret := (some .int)) (by decide) rfl ?_
  intro p e s m args below meth c s₁ B hml hv
  obtain ⟨rfl, hsz, ⟨hP, hK, hD0⟩, hE⟩ := hv
  have hx := B.exec
  have hb := B.bytes
  have hr := B.returns
  have hts := atoms_spec (ws := wsX3_count) B.pre
  have hown : s.vm.findClass RX3 = some m.cls := findClass_of_methodNamed B.named
  have hlocks := B.notSynchronized
  subst hsz
  have hD := hD0.self (sz := s.heap.size)
  generalize hAe : va_A (mW hm q0 q1 q2 q3 q4 q5 q6 q7 q8 q9 cI cJ th nd fs ft mi ml fl gS gX gT gC gO fD gE sp fa) s.heap.size = A at hD hE ⊢
  have hA : ∀ q : Nat, s.heap.size ≤ q → A q := fun q h => by rw [← hAe]; exact Or.inr h
  have hS : va_S A s.heap s.heap [] := va_S.rf
  have hP : va_P D vwCl [(hm, .inr (3, [.int th, .int (nI nd), .ref q0, .ref q1, .int (nI mi), .int (nI ml), .ref q2, .ref q3, .ref q4, .ref q5, .ref q6, .ref q7, .ref q8, .ref q9, .int (nI sp), .int fa])), (q0, .inl (cI, 401, .inl fs)), (q1, .inl (cJ, 25664, .inr (.inl ft))), (q2, .inl (cI, 4, .inl fl)), (q3, .inl (cI, 8, .inl (fun j => nI (gS j)))), (q4, .inl (cI, 8, .inl (fun j => nI (gX j)))), (q5, .inl (cI, 8, .inl (fun j => nI (gT j)))), (q6, .inl (cI, 2, .inl (fun j => nI (gC j)))), (q7, .inl (cI, 32, .inl (fun j => nI (gO j)))), (q8, .inl (cI, 32, .inl fD)), (q9, .inl (cI, 2, .inl (fun j => nI (gE j))))] s.heap := hP
  have hD : va_D A [(hm, .inr (3, [.int th, .int (nI nd), .ref q0, .ref q1, .int (nI mi), .int (nI ml), .ref q2, .ref q3, .ref q4, .ref q5, .ref q6, .ref q7, .ref q8, .ref q9, .int (nI sp), .int fa])), (q0, .inl (cI, 401, .inl fs)), (q1, .inl (cJ, 25664, .inr (.inl ft))), (q2, .inl (cI, 4, .inl fl)), (q3, .inl (cI, 8, .inl (fun j => nI (gS j)))), (q4, .inl (cI, 8, .inl (fun j => nI (gX j)))), (q5, .inl (cI, 8, .inl (fun j => nI (gT j)))), (q6, .inl (cI, 2, .inl (fun j => nI (gC j)))), (q7, .inl (cI, 32, .inl (fun j => nI (gO j)))), (q8, .inl (cI, 32, .inl fD)), (q9, .inl (cI, 2, .inl (fun j => nI (gE j))))] := hD
  have hl := lv_entry ([.ref hm, .int (nI 3)]) (n := 2) (Nat.le_of_ble_eq_true rfl)
  rw [lg_entry_eq]
  generalize (lg_sl ([.ref hm, .int (nI 3)]) ++ List.replicate (2 - (lg_sl ([.ref hm, .int (nI 3)])).length) Slot.unset).toArray = ls at hl ⊢
  have hl : lv_has ls 2 [(0, .ref hm), (1, .int (nI 3))] := hl
  have hin3 : ∀ w ∈ wsX30, w ∈ wsX3_count := by decide +kernel
  have kf44 := hts (.fieldLink RX3 44 "SweepEqualModel" "thrown" "I") (by decide +kernel)
  have kf48 := hts (.fieldLink RX3 48 "SweepEqualModel" "nodes" "I") (by decide +kernel)
  have kf51 := hts (.fieldLink RX3 51 "SweepEqualModel" "inputs" "I") (by decide +kernel)
  have kf54 := hts (.fieldLink RX3 54 "SweepEqualModel" "latches" "I") (by decide +kernel)
  have kf29 := hts (.fieldLink RX3 29 "SweepEqualModel" "outputCounts" "[I") (by decide +kernel)
  refine lv_aload_n hx hb dX3_count_0 rfl (lv_at hl 0 rfl) ?_
  refine lv_iload_n hx hb dX3_count_1 rfl (lv_at hl 1 rfl) ?_
  refine lv_bipush (v := nI 7) hx hb dX3_count_2 (by decide) ?_
  refine rd_S (As := [.int (nI 3), .int (nI 7)]) (rest := [.ref hm]) ⟨hx, hb, hml, hown, hts⟩ (c_X3_isIn l (nI 3) (nI 7)) (va_cwS 2 hts gX3_count_X3_isIn rfl rfl rfl (by decide +kernel) ⟨Nat.le_of_ble_eq_true rfl, Nat.le_of_ble_eq_true rfl⟩) preEq rfl hl.1 rfl (Nat.le_of_ble_eq_true rfl) dX3_count_4 ⟨by show _ ≤ _; simp only [headSpec]; omega, by show _ ≤ _; simp only [headSpec]; omega⟩ ?_
  refine tp_i (show zI (decide (¬ nI 3 < 0 ∧ ¬ nI 7 ≤ nI 3)) = nI 1 from by decide) ?_
  refine lv_if_eq (tgt := 14) hx hb dX3_count_7 (by decide) (fun hc => absurd hc (by decide)) (fun _ => ?_)
  refine lv_iconst (v := nI 0) hx hb dX3_count_10 (by decide) ?_
  refine lv_goto (tgt := 15) hx hb dX3_count_11 (by decide) ?_
  refine va_put (D := D) (ci := 3) (v := .int (nI 0)) (ty := .int) (C := RX3) (T := TX3) (N := 16) hx hb hts hin3 tyX3 tyX3_ok nmX3 hown hK hP hD hS 0 rfl rfl 0 (by decide) kf44 (fun _ h9 => h9) rfl (by decide +kernel) rfl rfl (Nat.le_of_ble_eq_true rfl) dX3_count_15 (fun H locs hP hD hS => ?_)
  have hP : va_P D vwCl [(hm, .inr (3, [.int (nI 0), .int (nI nd), .ref q0, .ref q1, .int (nI mi), .int (nI ml), .ref q2, .ref q3, .ref q4, .ref q5, .ref q6, .ref q7, .ref q8, .ref q9, .int (nI sp), .int fa])), (q0, .inl (cI, 401, .inl fs)), (q1, .inl (cJ, 25664, .inr (.inl ft))), (q2, .inl (cI, 4, .inl fl)), (q3, .inl (cI, 8, .inl (fun j => nI (gS j)))), (q4, .inl (cI, 8, .inl (fun j => nI (gX j)))), (q5, .inl (cI, 8, .inl (fun j => nI (gT j)))), (q6, .inl (cI, 2, .inl (fun j => nI (gC j)))), (q7, .inl (cI, 32, .inl (fun j => nI (gO j)))), (q8, .inl (cI, 32, .inl fD)), (q9, .inl (cI, 2, .inl (fun j => nI (gE j))))] H := hP
  have hD : va_D A [(hm, .inr (3, [.int (nI 0), .int (nI nd), .ref q0, .ref q1, .int (nI mi), .int (nI ml), .ref q2, .ref q3, .ref q4, .ref q5, .ref q6, .ref q7, .ref q8, .ref q9, .int (nI sp), .int fa])), (q0, .inl (cI, 401, .inl fs)), (q1, .inl (cJ, 25664, .inr (.inl ft))), (q2, .inl (cI, 4, .inl fl)), (q3, .inl (cI, 8, .inl (fun j => nI (gS j)))), (q4, .inl (cI, 8, .inl (fun j => nI (gX j)))), (q5, .inl (cI, 8, .inl (fun j => nI (gT j)))), (q6, .inl (cI, 2, .inl (fun j => nI (gC j)))), (q7, .inl (cI, 32, .inl (fun j => nI (gO j)))), (q8, .inl (cI, 32, .inl fD)), (q9, .inl (cI, 2, .inl (fun j => nI (gE j))))] := hD
  refine lv_iload_n hx hb dX3_count_18 rfl (lv_at hl 1 rfl) ?_
  refine lv_tableIn (tgt := 75) hx hb dX3_count_19 (by decide) (by decide) rfl (by decide) ?_
  refine lv_aload_n hx hb dX3_count_75 rfl (lv_at hl 0 rfl) ?_
  refine lv_iconst (v := nI 0) hx hb dX3_count_76 (by decide) ?_
  refine rd_V (As := [.int (nI 0)]) (rest := []) ⟨hx, hb, hml, hown, hts⟩ (c_X3_ands l D cI cJ hm q0 q1 q2 q3 q4 q5 q6 q7 q8 q9 (nI 0) nd fs ft mi ml fl gS gX gT gC gO fD gE sp fa (nI 0) hnd) (cwV 1 hts gX3_count_X3_ands rfl rfl rfl (by decide +kernel) ⟨Nat.le_of_ble_eq_true rfl, Nat.le_of_ble_eq_true rfl⟩) (rd_pv (ci := 3) (q0 := 0) hK hP rfl rfl) rfl hl.1 rfl (Nat.le_of_ble_eq_true rfl) dX3_count_77 ⟨by show _ ≤ _; simp only [headSpec]; omega, by show _ ≤ _; simp only [headSpec]; omega⟩ ?_
  exact wr_i (()) hx hb hr hlocks hP hD hS dX3_count_80 (rfl) (trivial)
set_option maxHeartbeats 4000000 in
set_option maxRecDepth 100000 in
/-- count 4 -/
theorem w_X3_count4 (hnd : nd ≤ 400) (sz : Nat) : Met l yX3_count wsX3_count { frames := 1, cells := 0, slots := 0, locals := 23 } (wr_P D [(cI, .int), (cJ, .long)] (mW hm q0 q1 q2 q3 q4 q5 q6 q7 q8 q9 cI cJ th nd fs ft mi ml fl gS gX gT gC gO fD gE sp fa) sz tp [.ref hm, .int (nI 4)]) (wx (Su := Unit) D [(cI, .int), (cJ, .long)] (va_A (mW hm q0 q1 q2 q3 q4 q5 q6 q7 q8 q9 cI cJ th nd fs ft mi ml fl gS gX gT gC gO fD gE sp fa) sz) (fun _ => some (.int (nI (cAnd fs (nI 1) nd)))) (fun _ => True) (fun _ => mW hm q0 q1 q2 q3 q4 q5 q6 q7 q8 q9 cI cJ (nI 0) nd fs ft mi ml fl gS gX gT gC gO fD gE sp fa)) 0 0 (va_A (mW hm q0 q1 q2 q3 q4 q5 q6 q7 q8 q9 cI cJ th nd fs ft mi ml fl gS gX gT gC gO fD gE sp fa) sz) := by
  refine Met.ofW (cc := cX3_count) (maxL := 2) (ret := (some .int)) (by decide) rfl ?_
  intro p e s m args below meth c s₁ B hml hv
  obtain ⟨rfl, hsz, ⟨hP, hK, hD0⟩, hE⟩ := hv
  have hx := B.exec
  have hb := B.bytes
  have hr := B.returns
  have hts := atoms_spec (ws := wsX3_count) B.pre
  have hown : s.vm.findClass RX3 = some m.cls := findClass_of_methodNamed B.named
  have hlocks := B.notSynchronized
  subst hsz
  have hD := hD0.self (sz := s.heap.size)
  generalize hAe : va_A (mW hm q0 q1 q2 q3 q4 q5 q6 q7 q8 q9 cI cJ th nd fs ft mi ml fl gS gX gT gC gO fD gE sp fa) s.heap.size = A at hD hE ⊢
  have hA : ∀ q : Nat, s.heap.size ≤ q → A q := fun q h => by rw [← hAe]; exact Or.inr h
  have hS : va_S A s.heap s.heap [] := va_S.rf
  have hP : va_P D vwCl [(hm, .inr (3, [.int th, .int (nI nd), .ref q0, .ref q1, .int (nI mi), .int (nI ml), .ref q2, .ref q3, .ref q4, .ref q5, .ref q6, .ref q7, .ref q8, .ref q9, .int (nI sp), .int fa])), (q0, .inl (cI, 401, .inl fs)), (q1, .inl (cJ, 25664, .inr (.inl ft))), (q2, .inl (cI, 4, .inl fl)), (q3, .inl (cI, 8, .inl (fun j => nI (gS j)))), (q4, .inl (cI, 8, .inl (fun j => nI (gX j)))), (q5, .inl (cI, 8, .inl (fun j => nI (gT j)))), (q6, .inl (cI, 2, .inl (fun j => nI (gC j)))), (q7, .inl (cI, 32, .inl (fun j => nI (gO j)))), (q8, .inl (cI, 32, .inl fD)), (q9, .inl (cI, 2, .inl (fun j => nI (gE j))))] s.heap := hP
  have hD : va_D A [(hm, .inr (3, [.int th, .int (nI nd), .ref q0, .ref q1, .int (nI mi), .int (nI ml), .ref q2, .ref q3, .ref q4, .ref q5, .ref q6, .ref q7, .ref q8, .ref q9, .int (nI sp), .int fa])), (q0, .inl (cI, 401, .inl fs)), (q1, .inl (cJ, 25664, .inr (.inl ft))), (q2, .inl (cI, 4, .inl fl)), (q3, .inl (cI, 8, .inl (fun j => nI (gS j)))), (q4, .inl (cI, 8, .inl (fun j => nI (gX j)))), (q5, .inl (cI, 8, .inl (fun j => nI (gT j)))), (q6, .inl (cI, 2, .inl (fun j => nI (gC j)))), (q7, .inl (cI, 32, .inl (fun j => nI (gO j)))), (q8, .inl (cI, 32, .inl fD)), (q9, .inl (cI, 2, .inl (fun j => nI (gE j))))] := hD
  have hl := lv_entry ([.ref hm, .int (nI 4)]) (n := 2) (Nat.le_of_ble_eq_true rfl)
  rw [lg_entry_eq]
  generalize (lg_sl ([.ref hm, .int (nI 4)]) ++ List.replicate (2 - (lg_sl ([.ref hm, .int (nI 4)])).length) Slot.unset).toArray = ls at hl ⊢
  have hl : lv_has ls 2 [(0, .ref hm), (1, .int (nI 4))] := hl
  have hin3 : ∀ w ∈ wsX30, w ∈ wsX3_count := by decide +kernel
  have kf44 := hts (.fieldLink RX3 44 "SweepEqualModel" "thrown" "I") (by decide +kernel)
  have kf48 := hts (.fieldLink RX3 48 "SweepEqualModel" "nodes" "I") (by decide +kernel)
  have kf51 := hts (.fieldLink RX3 51 "SweepEqualModel" "inputs" "I") (by decide +kernel)
  have kf54 := hts (.fieldLink RX3 54 "SweepEqualModel" "latches" "I") (by decide +kernel)
  have kf29 := hts (.fieldLink RX3 29 "SweepEqualModel" "outputCounts" "[I") (by decide +kernel)
  refine lv_aload_n hx hb dX3_count_0 rfl (lv_at hl 0 rfl) ?_
  refine lv_iload_n hx hb dX3_count_1 rfl (lv_at hl 1 rfl) ?_
  refine lv_bipush (v := nI 7) hx hb dX3_count_2 (by decide) ?_
  refine rd_S (As := [.int (nI 4), .int (nI 7)]) (rest := [.ref hm]) ⟨hx, hb, hml, hown, hts⟩ (c_X3_isIn l (nI 4) (nI 7)) (va_cwS 2 hts gX3_count_X3_isIn rfl rfl rfl (by decide +kernel) ⟨Nat.le_of_ble_eq_true rfl, Nat.le_of_ble_eq_true rfl⟩) preEq rfl hl.1 rfl (Nat.le_of_ble_eq_true rfl) dX3_count_4 ⟨by show _ ≤ _; simp only [headSpec]; omega, by show _ ≤ _; simp only [headSpec]; omega⟩ ?_
  refine tp_i (show zI (decide (¬ nI 4 < 0 ∧ ¬ nI 7 ≤ nI 4)) = nI 1 from by decide) ?_
  refine lv_if_eq (tgt := 14) hx hb dX3_count_7 (by decide) (fun hc => absurd hc (by decide)) (fun _ => ?_)
  refine lv_iconst (v := nI 0) hx hb dX3_count_10 (by decide) ?_
  refine lv_goto (tgt := 15) hx hb dX3_count_11 (by decide) ?_
  refine va_put (D := D) (ci := 3) (v := .int (nI 0)) (ty := .int) (C := RX3) (T := TX3) (N := 16) hx hb hts hin3 tyX3 tyX3_ok nmX3 hown hK hP hD hS 0 rfl rfl 0 (by decide) kf44 (fun _ h9 => h9) rfl (by decide +kernel) rfl rfl (Nat.le_of_ble_eq_true rfl) dX3_count_15 (fun H locs hP hD hS => ?_)
  have hP : va_P D vwCl [(hm, .inr (3, [.int (nI 0), .int (nI nd), .ref q0, .ref q1, .int (nI mi), .int (nI ml), .ref q2, .ref q3, .ref q4, .ref q5, .ref q6, .ref q7, .ref q8, .ref q9, .int (nI sp), .int fa])), (q0, .inl (cI, 401, .inl fs)), (q1, .inl (cJ, 25664, .inr (.inl ft))), (q2, .inl (cI, 4, .inl fl)), (q3, .inl (cI, 8, .inl (fun j => nI (gS j)))), (q4, .inl (cI, 8, .inl (fun j => nI (gX j)))), (q5, .inl (cI, 8, .inl (fun j => nI (gT j)))), (q6, .inl (cI, 2, .inl (fun j => nI (gC j)))), (q7, .inl (cI, 32, .inl (fun j => nI (gO j)))), (q8, .inl (cI, 32, .inl fD)), (q9, .inl (cI, 2, .inl (fun j => nI (gE j))))] H := hP
  have hD : va_D A [(hm, .inr (3, [.int (nI 0), .int (nI nd), .ref q0, .ref q1, .int (nI mi), .int (nI ml), .ref q2, .ref q3, .ref q4, .ref q5, .ref q6, .ref q7, .ref q8, .ref q9, .int (nI sp), .int fa])), (q0, .inl (cI, 401, .inl fs)), (q1, .inl (cJ, 25664, .inr (.inl ft))), (q2, .inl (cI, 4, .inl fl)), (q3, .inl (cI, 8, .inl (fun j => nI (gS j)))), (q4, .inl (cI, 8, .inl (fun j => nI (gX j)))), (q5, .inl (cI, 8, .inl (fun j => nI (gT j)))), (q6, .inl (cI, 2, .inl (fun j => nI (gC j)))), (q7, .inl (cI, 32, .inl (fun j => nI (gO j)))), (q8, .inl (cI, 32, .inl fD)), (q9, .inl (cI, 2, .inl (fun j => nI (gE j))))] := hD
  refine lv_iload_n hx hb dX3_count_18 rfl (lv_at hl 1 rfl) ?_
  refine lv_tableIn (tgt := 81) hx hb dX3_count_19 (by decide) (by decide) rfl (by decide) ?_
  refine lv_aload_n hx hb dX3_count_81 rfl (lv_at hl 0 rfl) ?_
  refine lv_iconst (v := nI 1) hx hb dX3_count_82 (by decide) ?_
  refine rd_V (As := [.int (nI 1)]) (rest := []) ⟨hx, hb, hml, hown, hts⟩ (c_X3_ands l D cI cJ hm q0 q1 q2 q3 q4 q5 q6 q7 q8 q9 (nI 0) nd fs ft mi ml fl gS gX gT gC gO fD gE sp fa (nI 1) hnd) (cwV 1 hts gX3_count_X3_ands rfl rfl rfl (by decide +kernel) ⟨Nat.le_of_ble_eq_true rfl, Nat.le_of_ble_eq_true rfl⟩) (rd_pv (ci := 3) (q0 := 0) hK hP rfl rfl) rfl hl.1 rfl (Nat.le_of_ble_eq_true rfl) dX3_count_83 ⟨by show _ ≤ _; simp only [headSpec]; omega, by show _ ≤ _; simp only [headSpec]; omega⟩ ?_
  exact wr_i (()) hx hb hr hlocks hP hD hS dX3_count_86 (rfl) (trivial)
set_option maxHeartbeats 4000000 in
set_option maxRecDepth 100000 in
/-- count 5 -/
theorem w_X3_count5 (hnd : nd ≤ 400) (sz : Nat) : Met l yX3_count wsX3_count { frames := 1, cells := 0, slots := 0, locals := 23 } (wr_P D [(cI, .int), (cJ, .long)] (mW hm q0 q1 q2 q3 q4 q5 q6 q7 q8 q9 cI cJ th nd fs ft mi ml fl gS gX gT gC gO fD gE sp fa) sz tp [.ref hm, .int (nI 5)]) (wx (Su := Unit) D [(cI, .int), (cJ, .long)] (va_A (mW hm q0 q1 q2 q3 q4 q5 q6 q7 q8 q9 cI cJ th nd fs ft mi ml fl gS gX gT gC gO fD gE sp fa) sz) (fun _ => some (.int (nI (gC 0)))) (fun _ => True) (fun _ => mW hm q0 q1 q2 q3 q4 q5 q6 q7 q8 q9 cI cJ (nI 0) nd fs ft mi ml fl gS gX gT gC gO fD gE sp fa)) 0 0 (va_A (mW hm q0 q1 q2 q3 q4 q5 q6 q7 q8 q9 cI cJ th nd fs ft mi ml fl gS gX gT gC gO fD gE sp fa) sz) := by
  refine Met.ofW (cc := cX3_count) (maxL := 2) (ret := (some .int)) (by decide) rfl ?_
  intro p e s m args below meth c s₁ B hml hv
  obtain ⟨rfl, hsz, ⟨hP, hK, hD0⟩, hE⟩ := hv
  have hx := B.exec
  have hb := B.bytes
  have hr := B.returns
  have hts := atoms_spec (ws := wsX3_count) B.pre
  have hown : s.vm.findClass RX3 = some m.cls := findClass_of_methodNamed B.named
  have hlocks := B.notSynchronized
  subst hsz
  have hD := hD0.self (sz := s.heap.size)
  generalize hAe : va_A (mW hm q0 q1 q2 q3 q4 q5 q6 q7 q8 q9 cI cJ th nd fs ft mi ml fl gS gX gT gC gO fD gE sp fa) s.heap.size = A at hD hE ⊢
  have hA : ∀ q : Nat, s.heap.size ≤ q → A q := fun q h => by rw [← hAe]; exact Or.inr h
  have hS : va_S A s.heap s.heap [] := va_S.rf
  have hP : va_P D vwCl [(hm, .inr (3, [.int th, .int (nI nd), .ref q0, .ref q1, .int (nI mi), .int (nI ml), .ref q2, .ref q3, .ref q4, .ref q5, .ref q6, .ref q7, .ref q8, .ref q9, .int (nI sp), .int fa])), (q0, .inl (cI, 401, .inl fs)), (q1, .inl (cJ, 25664, .inr (.inl ft))), (q2, .inl (cI, 4, .inl fl)), (q3, .inl (cI, 8, .inl (fun j => nI (gS j)))), (q4, .inl (cI, 8, .inl (fun j => nI (gX j)))), (q5, .inl (cI, 8, .inl (fun j => nI (gT j)))), (q6, .inl (cI, 2, .inl (fun j => nI (gC j)))), (q7, .inl (cI, 32, .inl (fun j => nI (gO j)))), (q8, .inl (cI, 32, .inl fD)), (q9, .inl (cI, 2, .inl (fun j => nI (gE j))))] s.heap := hP
  have hD : va_D A [(hm, .inr (3, [.int th, .int (nI nd), .ref q0, .ref q1, .int (nI mi), .int (nI ml), .ref q2, .ref q3, .ref q4, .ref q5, .ref q6, .ref q7, .ref q8, .ref q9, .int (nI sp), .int fa])), (q0, .inl (cI, 401, .inl fs)), (q1, .inl (cJ, 25664, .inr (.inl ft))), (q2, .inl (cI, 4, .inl fl)), (q3, .inl (cI, 8, .inl (fun j => nI (gS j)))), (q4, .inl (cI, 8, .inl (fun j => nI (gX j)))), (q5, .inl (cI, 8, .inl (fun j => nI (gT j)))), (q6, .inl (cI, 2, .inl (fun j => nI (gC j)))), (q7, .inl (cI, 32, .inl (fun j => nI (gO j)))), (q8, .inl (cI, 32, .inl fD)), (q9, .inl (cI, 2, .inl (fun j => nI (gE j))))] := hD
  have hl := lv_entry ([.ref hm, .int (nI 5)]) (n := 2) (Nat.le_of_ble_eq_true rfl)
  rw [lg_entry_eq]
  generalize (lg_sl ([.ref hm, .int (nI 5)]) ++ List.replicate (2 - (lg_sl ([.ref hm, .int (nI 5)])).length) Slot.unset).toArray = ls at hl ⊢
  have hl : lv_has ls 2 [(0, .ref hm), (1, .int (nI 5))] := hl
  have hin3 : ∀ w ∈ wsX30, w ∈ wsX3_count := by decide +kernel
  have kf44 := hts (.fieldLink RX3 44 "SweepEqualModel" "thrown" "I") (by decide +kernel)
  have kf48 := hts (.fieldLink RX3 48 "SweepEqualModel" "nodes" "I") (by decide +kernel)
  have kf51 := hts (.fieldLink RX3 51 "SweepEqualModel" "inputs" "I") (by decide +kernel)
  have kf54 := hts (.fieldLink RX3 54 "SweepEqualModel" "latches" "I") (by decide +kernel)
  have kf29 := hts (.fieldLink RX3 29 "SweepEqualModel" "outputCounts" "[I") (by decide +kernel)
  refine lv_aload_n hx hb dX3_count_0 rfl (lv_at hl 0 rfl) ?_
  refine lv_iload_n hx hb dX3_count_1 rfl (lv_at hl 1 rfl) ?_
  refine lv_bipush (v := nI 7) hx hb dX3_count_2 (by decide) ?_
  refine rd_S (As := [.int (nI 5), .int (nI 7)]) (rest := [.ref hm]) ⟨hx, hb, hml, hown, hts⟩ (c_X3_isIn l (nI 5) (nI 7)) (va_cwS 2 hts gX3_count_X3_isIn rfl rfl rfl (by decide +kernel) ⟨Nat.le_of_ble_eq_true rfl, Nat.le_of_ble_eq_true rfl⟩) preEq rfl hl.1 rfl (Nat.le_of_ble_eq_true rfl) dX3_count_4 ⟨by show _ ≤ _; simp only [headSpec]; omega, by show _ ≤ _; simp only [headSpec]; omega⟩ ?_
  refine tp_i (show zI (decide (¬ nI 5 < 0 ∧ ¬ nI 7 ≤ nI 5)) = nI 1 from by decide) ?_
  refine lv_if_eq (tgt := 14) hx hb dX3_count_7 (by decide) (fun hc => absurd hc (by decide)) (fun _ => ?_)
  refine lv_iconst (v := nI 0) hx hb dX3_count_10 (by decide) ?_
  refine lv_goto (tgt := 15) hx hb dX3_count_11 (by decide) ?_
  refine va_put (D := D) (ci := 3) (v := .int (nI 0)) (ty := .int) (C := RX3) (T := TX3) (N := 16) hx hb hts hin3 tyX3 tyX3_ok nmX3 hown hK hP hD hS 0 rfl rfl 0 (by decide) kf44 (fun _ h9 => h9) rfl (by decide +kernel) rfl rfl (Nat.le_of_ble_eq_true rfl) dX3_count_15 (fun H locs hP hD hS => ?_)
  have hP : va_P D vwCl [(hm, .inr (3, [.int (nI 0), .int (nI nd), .ref q0, .ref q1, .int (nI mi), .int (nI ml), .ref q2, .ref q3, .ref q4, .ref q5, .ref q6, .ref q7, .ref q8, .ref q9, .int (nI sp), .int fa])), (q0, .inl (cI, 401, .inl fs)), (q1, .inl (cJ, 25664, .inr (.inl ft))), (q2, .inl (cI, 4, .inl fl)), (q3, .inl (cI, 8, .inl (fun j => nI (gS j)))), (q4, .inl (cI, 8, .inl (fun j => nI (gX j)))), (q5, .inl (cI, 8, .inl (fun j => nI (gT j)))), (q6, .inl (cI, 2, .inl (fun j => nI (gC j)))), (q7, .inl (cI, 32, .inl (fun j => nI (gO j)))), (q8, .inl (cI, 32, .inl fD)), (q9, .inl (cI, 2, .inl (fun j => nI (gE j))))] H := hP
  have hD : va_D A [(hm, .inr (3, [.int (nI 0), .int (nI nd), .ref q0, .ref q1, .int (nI mi), .int (nI ml), .ref q2, .ref q3, .ref q4, .ref q5, .ref q6, .ref q7, .ref q8, .ref q9, .int (nI sp), .int fa])), (q0, .inl (cI, 401, .inl fs)), (q1, .inl (cJ, 25664, .inr (.inl ft))), (q2, .inl (cI, 4, .inl fl)), (q3, .inl (cI, 8, .inl (fun j => nI (gS j)))), (q4, .inl (cI, 8, .inl (fun j => nI (gX j)))), (q5, .inl (cI, 8, .inl (fun j => nI (gT j)))), (q6, .inl (cI, 2, .inl (fun j => nI (gC j)))), (q7, .inl (cI, 32, .inl (fun j => nI (gO j)))), (q8, .inl (cI, 32, .inl fD)), (q9, .inl (cI, 2, .inl (fun j => nI (gE j))))] := hD
  refine lv_iload_n hx hb dX3_count_18 rfl (lv_at hl 1 rfl) ?_
  refine lv_tableIn (tgt := 87) hx hb dX3_count_19 (by decide) (by decide) rfl (by decide) ?_
  refine lv_aload_n hx hb dX3_count_87 rfl (lv_at hl 0 rfl) ?_
  refine va_get (D := D) (ci := 3) (v := .ref q6) (C := RX3) (T := TX3) (N := 16) hx hb hts hin3 hown hK hP 0 rfl rfl 10 (by decide) kf29 (fun _ h9 => h9) rfl dX3_count_88 ?_
  refine lv_iconst (v := nI 0) hx hb dX3_count_91 (by decide) ?_
  refine va_iald hx hb hK hP 7 0 rfl rfl (vp_in_nI (by omega) (by omega)) dX3_count_92 ?_
  refine tp_i (show (fun j => nI (gC j)) (nI 0).toNatClampNeg = nI (gC 0) from congrArg (fun j => nI (gC j)) (nI_clamp (by omega))) ?_
  exact wr_i (()) hx hb hr hlocks hP hD hS dX3_count_93 (rfl) (trivial)
set_option maxHeartbeats 4000000 in
set_option maxRecDepth 100000 in
/-- count 6 -/
theorem w_X3_count6 (hnd : nd ≤ 400) (sz : Nat) : Met l yX3_count wsX3_count { frames := 1, cells := 0, slots := 0, locals := 23 } (wr_P D [(cI, .int), (cJ, .long)] (mW hm q0 q1 q2 q3 q4 q5 q6 q7 q8 q9 cI cJ th nd fs ft mi ml fl gS gX gT gC gO fD gE sp fa) sz tp [.ref hm, .int (nI 6)]) (wx (Su := Unit) D [(cI, .int), (cJ, .long)] (va_A (mW hm q0 q1 q2 q3 q4 q5 q6 q7 q8 q9 cI cJ th nd fs ft mi ml fl gS gX gT gC gO fD gE sp fa) sz) (fun _ => some (.int (nI (gC 1)))) (fun _ => True) (fun _ => mW hm q0 q1 q2 q3 q4 q5 q6 q7 q8 q9 cI cJ (nI 0) nd fs ft mi ml fl gS gX gT gC gO fD gE sp fa)) 0 0 (va_A (mW hm q0 q1 q2 q3 q4 q5 q6 q7 q8 q9 cI cJ th nd fs ft mi ml fl gS gX gT gC gO fD gE sp fa) sz) := by
  refine Met.ofW (cc := cX3_count) (maxL := 2) (ret := (some .int)) (by decide) rfl ?_
  intro p e s m args below meth c s₁ B hml hv
  obtain ⟨rfl, hsz, ⟨hP, hK, hD0⟩, hE⟩ := hv
  have hx := B.exec
  have hb := B.bytes
  have hr := B.returns
  have hts := atoms_spec (ws := wsX3_count) B.pre
  have hown : s.vm.findClass RX3 = some m.cls := findClass_of_methodNamed B.named
  have hlocks := B.notSynchronized
  subst hsz
  have hD := hD0.self (sz := s.heap.size)
  generalize hAe : va_A (mW hm q0 q1 q2 q3 q4 q5 q6 q7 q8 q9 cI cJ th nd fs ft mi ml fl gS gX gT gC gO fD gE sp fa) s.heap.size = A at hD hE ⊢
  have hA : ∀ q : Nat, s.heap.size ≤ q → A q := fun q h => by rw [← hAe]; exact Or.inr h
  have hS : va_S A s.heap s.heap [] := va_S.rf
  have hP : va_P D vwCl [(hm, .inr (3, [.int th, .int (nI nd), .ref q0, .ref q1, .int (nI mi), .int (nI ml), .ref q2, .ref q3, .ref q4, .ref q5, .ref q6, .ref q7, .ref q8, .ref q9, .int (nI sp), .int fa])), (q0, .inl (cI, 401, .inl fs)), (q1, .inl (cJ, 25664, .inr (.inl ft))), (q2, .inl (cI, 4, .inl fl)), (q3, .inl (cI, 8, .inl (fun j => nI (gS j)))), (q4, .inl (cI, 8, .inl (fun j => nI (gX j)))), (q5, .inl (cI, 8, .inl (fun j => nI (gT j)))), (q6, .inl (cI, 2, .inl (fun j => nI (gC j)))), (q7, .inl (cI, 32, .inl (fun j => nI (gO j)))), (q8, .inl (cI, 32, .inl fD)), (q9, .inl (cI, 2, .inl (fun j => nI (gE j))))] s.heap := hP
  have hD : va_D A [(hm, .inr (3, [.int th, .int (nI nd), .ref q0, .ref q1, .int (nI mi), .int (nI ml), .ref q2, .ref q3, .ref q4, .ref q5, .ref q6, .ref q7, .ref q8, .ref q9, .int (nI sp), .int fa])), (q0, .inl (cI, 401, .inl fs)), (q1, .inl (cJ, 25664, .inr (.inl ft))), (q2, .inl (cI, 4, .inl fl)), (q3, .inl (cI, 8, .inl (fun j => nI (gS j)))), (q4, .inl (cI, 8, .inl (fun j => nI (gX j)))), (q5, .inl (cI, 8, .inl (fun j => nI (gT j)))), (q6, .inl (cI, 2, .inl (fun j => nI (gC j)))), (q7, .inl (cI, 32, .inl (fun j => nI (gO j)))), (q8, .inl (cI, 32, .inl fD)), (q9, .inl (cI, 2, .inl (fun j => nI (gE j))))] := hD
  have hl := lv_entry ([.ref hm, .int (nI 6)]) (n := 2) (Nat.le_of_ble_eq_true rfl)
  rw [lg_entry_eq]
  generalize (lg_sl ([.ref hm, .int (nI 6)]) ++ List.replicate (2 - (lg_sl ([.ref hm, .int (nI 6)])).length) Slot.unset).toArray = ls at hl ⊢
  have hl : lv_has ls 2 [(0, .ref hm), (1, .int (nI 6))] := hl
  have hin3 : ∀ w ∈ wsX30, w ∈ wsX3_count := by decide +kernel
  have kf44 := hts (.fieldLink RX3 44 "SweepEqualModel" "thrown" "I") (by decide +kernel)
  have kf48 := hts (.fieldLink RX3 48 "SweepEqualModel" "nodes" "I") (by decide +kernel)
  have kf51 := hts (.fieldLink RX3 51 "SweepEqualModel" "inputs" "I") (by decide +kernel)
  have kf54 := hts (.fieldLink RX3 54 "SweepEqualModel" "latches" "I") (by decide +kernel)
  have kf29 := hts (.fieldLink RX3 29 "SweepEqualModel" "outputCounts" "[I") (by decide +kernel)
  refine lv_aload_n hx hb dX3_count_0 rfl (lv_at hl 0 rfl) ?_
  refine lv_iload_n hx hb dX3_count_1 rfl (lv_at hl 1 rfl) ?_
  refine lv_bipush (v := nI 7) hx hb dX3_count_2 (by decide) ?_
  refine rd_S (As := [.int (nI 6), .int (nI 7)]) (rest := [.ref hm]) ⟨hx, hb, hml, hown, hts⟩ (c_X3_isIn l (nI 6) (nI 7)) (va_cwS 2 hts gX3_count_X3_isIn rfl rfl rfl (by decide +kernel) ⟨Nat.le_of_ble_eq_true rfl, Nat.le_of_ble_eq_true rfl⟩) preEq rfl hl.1 rfl (Nat.le_of_ble_eq_true rfl) dX3_count_4 ⟨by show _ ≤ _; simp only [headSpec]; omega, by show _ ≤ _; simp only [headSpec]; omega⟩ ?_
  refine tp_i (show zI (decide (¬ nI 6 < 0 ∧ ¬ nI 7 ≤ nI 6)) = nI 1 from by decide) ?_
  refine lv_if_eq (tgt := 14) hx hb dX3_count_7 (by decide) (fun hc => absurd hc (by decide)) (fun _ => ?_)
  refine lv_iconst (v := nI 0) hx hb dX3_count_10 (by decide) ?_
  refine lv_goto (tgt := 15) hx hb dX3_count_11 (by decide) ?_
  refine va_put (D := D) (ci := 3) (v := .int (nI 0)) (ty := .int) (C := RX3) (T := TX3) (N := 16) hx hb hts hin3 tyX3 tyX3_ok nmX3 hown hK hP hD hS 0 rfl rfl 0 (by decide) kf44 (fun _ h9 => h9) rfl (by decide +kernel) rfl rfl (Nat.le_of_ble_eq_true rfl) dX3_count_15 (fun H locs hP hD hS => ?_)
  have hP : va_P D vwCl [(hm, .inr (3, [.int (nI 0), .int (nI nd), .ref q0, .ref q1, .int (nI mi), .int (nI ml), .ref q2, .ref q3, .ref q4, .ref q5, .ref q6, .ref q7, .ref q8, .ref q9, .int (nI sp), .int fa])), (q0, .inl (cI, 401, .inl fs)), (q1, .inl (cJ, 25664, .inr (.inl ft))), (q2, .inl (cI, 4, .inl fl)), (q3, .inl (cI, 8, .inl (fun j => nI (gS j)))), (q4, .inl (cI, 8, .inl (fun j => nI (gX j)))), (q5, .inl (cI, 8, .inl (fun j => nI (gT j)))), (q6, .inl (cI, 2, .inl (fun j => nI (gC j)))), (q7, .inl (cI, 32, .inl (fun j => nI (gO j)))), (q8, .inl (cI, 32, .inl fD)), (q9, .inl (cI, 2, .inl (fun j => nI (gE j))))] H := hP
  have hD : va_D A [(hm, .inr (3, [.int (nI 0), .int (nI nd), .ref q0, .ref q1, .int (nI mi), .int (nI ml), .ref q2, .ref q3, .ref q4, .ref q5, .ref q6, .ref q7, .ref q8, .ref q9, .int (nI sp), .int fa])), (q0, .inl (cI, 401, .inl fs)), (q1, .inl (cJ, 25664, .inr (.inl ft))), (q2, .inl (cI, 4, .inl fl)), (q3, .inl (cI, 8, .inl (fun j => nI (gS j)))), (q4, .inl (cI, 8, .inl (fun j => nI (gX j)))), (q5, .inl (cI, 8, .inl (fun j => nI (gT j)))), (q6, .inl (cI, 2, .inl (fun j => nI (gC j)))), (q7, .inl (cI, 32, .inl (fun j => nI (gO j)))), (q8, .inl (cI, 32, .inl fD)), (q9, .inl (cI, 2, .inl (fun j => nI (gE j))))] := hD
  refine lv_iload_n hx hb dX3_count_18 rfl (lv_at hl 1 rfl) ?_
  refine lv_tableIn (tgt := 94) hx hb dX3_count_19 (by decide) (by decide) rfl (by decide) ?_
  refine lv_aload_n hx hb dX3_count_94 rfl (lv_at hl 0 rfl) ?_
  refine va_get (D := D) (ci := 3) (v := .ref q6) (C := RX3) (T := TX3) (N := 16) hx hb hts hin3 hown hK hP 0 rfl rfl 10 (by decide) kf29 (fun _ h9 => h9) rfl dX3_count_95 ?_
  refine lv_iconst (v := nI 1) hx hb dX3_count_98 (by decide) ?_
  refine va_iald hx hb hK hP 7 0 rfl rfl (vp_in_nI (by omega) (by omega)) dX3_count_99 ?_
  refine tp_i (show (fun j => nI (gC j)) (nI 1).toNatClampNeg = nI (gC 1) from congrArg (fun j => nI (gC j)) (nI_clamp (by omega))) ?_
  exact wr_i (()) hx hb hr hlocks hP hD hS dX3_count_100 (rfl) (trivial)
set_option maxHeartbeats 4000000 in
set_option maxRecDepth 100000 in
/-- count: no such what -/
theorem w_X3_countB (x : Int32) (hx9 : x.toInt < 0 ∨ 6 < x.toInt) (sz : Nat) : Met l yX3_count wsX3_count { frames := 1, cells := 0, slots := 0, locals := 23 } (wr_P D [(cI, .int), (cJ, .long)] (mW hm q0 q1 q2 q3 q4 q5 q6 q7 q8 q9 cI cJ th nd fs ft mi ml fl gS gX gT gC gO fD gE sp fa) sz tp [.ref hm, .int x]) (wx (Su := Unit) D [(cI, .int), (cJ, .long)] (va_A (mW hm q0 q1 q2 q3 q4 q5 q6 q7 q8 q9 cI cJ th nd fs ft mi ml fl gS gX gT gC gO fD gE sp fa) sz) (fun _ => some (.int (nI 0))) (fun _ => True) (fun _ => mW hm q0 q1 q2 q3 q4 q5 q6 q7 q8 q9 cI cJ (nI 1) nd fs ft mi ml fl gS gX gT gC gO fD gE sp fa)) 0 0 (va_A (mW hm q0 q1 q2 q3 q4 q5 q6 q7 q8 q9 cI cJ th nd fs ft mi ml fl gS gX gT gC gO fD gE sp fa) sz) := by
  refine Met.ofW (cc := cX3_count) (maxL := 2) (ret := (some .int)) (by decide) rfl ?_
  intro p e s m args below meth c s₁ B hml hv
  obtain ⟨rfl, hsz, ⟨hP, hK, hD0⟩, hE⟩ := hv
  have hx := B.exec
  have hb := B.bytes
  have hr := B.returns
  have hts := atoms_spec (ws := wsX3_count) B.pre
  have hown : s.vm.findClass RX3 = some m.cls := findClass_of_methodNamed B.named
  have hlocks := B.notSynchronized
  subst hsz
  have hD := hD0.self (sz := s.heap.size)
  generalize hAe : va_A (mW hm q0 q1 q2 q3 q4 q5 q6 q7 q8 q9 cI cJ th nd fs ft mi ml fl gS gX gT gC gO fD gE sp fa) s.heap.size = A at hD hE ⊢
  have hA : ∀ q : Nat, s.heap.size ≤ q → A q := fun q h => by rw [← hAe]; exact Or.inr h
  have hS : va_S A s.heap s.heap [] := va_S.rf
  have hP : va_P D vwCl [(hm, .inr (3, [.int th, .int (nI nd), .ref q0, .ref q1, .int (nI mi), .int (nI ml), .ref q2, .ref q3, .ref q4, .ref q5, .ref q6, .ref q7, .ref q8, .ref q9, .int (nI sp), .int fa])), (q0, .inl (cI, 401, .inl fs)), (q1, .inl (cJ, 25664, .inr (.inl ft))), (q2, .inl (cI, 4, .inl fl)), (q3, .inl (cI, 8, .inl (fun j => nI (gS j)))), (q4, .inl (cI, 8, .inl (fun j => nI (gX j)))), (q5, .inl (cI, 8, .inl (fun j => nI (gT j)))), (q6, .inl (cI, 2, .inl (fun j => nI (gC j)))), (q7, .inl (cI, 32, .inl (fun j => nI (gO j)))), (q8, .inl (cI, 32, .inl fD)), (q9, .inl (cI, 2, .inl (fun j => nI (gE j))))] s.heap := hP
  have hD : va_D A [(hm, .inr (3, [.int th, .int (nI nd), .ref q0, .ref q1, .int (nI mi), .int (nI ml), .ref q2, .ref q3, .ref q4, .ref q5, .ref q6, .ref q7, .ref q8, .ref q9, .int (nI sp), .int fa])), (q0, .inl (cI, 401, .inl fs)), (q1, .inl (cJ, 25664, .inr (.inl ft))), (q2, .inl (cI, 4, .inl fl)), (q3, .inl (cI, 8, .inl (fun j => nI (gS j)))), (q4, .inl (cI, 8, .inl (fun j => nI (gX j)))), (q5, .inl (cI, 8, .inl (fun j => nI (gT j)))), (q6, .inl (cI, 2, .inl (fun j => nI (gC j)))), (q7, .inl (cI, 32, .inl (fun j => nI (gO j)))), (q8, .inl (cI, 32, .inl fD)), (q9, .inl (cI, 2, .inl (fun j => nI (gE j))))] := hD
  have hl := lv_entry ([.ref hm, .int x]) (n := 2) (Nat.le_of_ble_eq_true rfl)
  rw [lg_entry_eq]
  generalize (lg_sl ([.ref hm, .int x]) ++ List.replicate (2 - (lg_sl ([.ref hm, .int x])).length) Slot.unset).toArray = ls at hl ⊢
  have hl : lv_has ls 2 [(0, .ref hm), (1, .int x)] := hl
  have hin3 : ∀ w ∈ wsX30, w ∈ wsX3_count := by decide +kernel
  have kf44 := hts (.fieldLink RX3 44 "SweepEqualModel" "thrown" "I") (by decide +kernel)
  have kf48 := hts (.fieldLink RX3 48 "SweepEqualModel" "nodes" "I") (by decide +kernel)
  have kf51 := hts (.fieldLink RX3 51 "SweepEqualModel" "inputs" "I") (by decide +kernel)
  have kf54 := hts (.fieldLink RX3 54 "SweepEqualModel" "latches" "I") (by decide +kernel)
  have kf29 := hts (.fieldLink RX3 29 "SweepEqualModel" "outputCounts" "[I") (by decide +kernel)
  refine lv_aload_n hx hb dX3_count_0 rfl (lv_at hl 0 rfl) ?_
  refine lv_iload_n hx hb dX3_count_1 rfl (lv_at hl 1 rfl) ?_
  refine lv_bipush (v := nI 7) hx hb dX3_count_2 (by decide) ?_
  refine rd_S (As := [.int x, .int (nI 7)]) (rest := [.ref hm]) ⟨hx, hb, hml, hown, hts⟩ (c_X3_isIn l x (nI 7)) (va_cwS 2 hts gX3_count_X3_isIn rfl rfl rfl (by decide +kernel) ⟨Nat.le_of_ble_eq_true rfl, Nat.le_of_ble_eq_true rfl⟩) preEq rfl hl.1 rfl (Nat.le_of_ble_eq_true rfl) dX3_count_4 ⟨by show _ ≤ _; simp only [headSpec]; omega, by show _ ≤ _; simp only [headSpec]; omega⟩ ?_
  refine tp_i (show zI (decide (¬ x < 0 ∧ ¬ nI 7 ≤ x)) = nI 0 from lit_f (cnt_no hx9)) ?_
  refine lv_if_eq (tgt := 14) hx hb dX3_count_7 (by decide) (fun _ => ?_) (fun hc => absurd hc (by decide))
  refine lv_iconst (v := nI 1) hx hb dX3_count_14 (by decide) ?_
  refine va_put (D := D) (ci := 3) (v := .int (nI 1)) (ty := .int) (C := RX3) (T := TX3) (N := 16) hx hb hts hin3 tyX3 tyX3_ok nmX3 hown hK hP hD hS 0 rfl rfl 0 (by decide) kf44 (fun _ h9 => h9) rfl (by decide +kernel) rfl rfl (Nat.le_of_ble_eq_true rfl) dX3_count_15 (fun H locs hP hD hS => ?_)
  have hP : va_P D vwCl [(hm, .inr (3, [.int (nI 1), .int (nI nd), .ref q0, .ref q1, .int (nI mi), .int (nI ml), .ref q2, .ref q3, .ref q4, .ref q5, .ref q6, .ref q7, .ref q8, .ref q9, .int (nI sp), .int fa])), (q0, .inl (cI, 401, .inl fs)), (q1, .inl (cJ, 25664, .inr (.inl ft))), (q2, .inl (cI, 4, .inl fl)), (q3, .inl (cI, 8, .inl (fun j => nI (gS j)))), (q4, .inl (cI, 8, .inl (fun j => nI (gX j)))), (q5, .inl (cI, 8, .inl (fun j => nI (gT j)))), (q6, .inl (cI, 2, .inl (fun j => nI (gC j)))), (q7, .inl (cI, 32, .inl (fun j => nI (gO j)))), (q8, .inl (cI, 32, .inl fD)), (q9, .inl (cI, 2, .inl (fun j => nI (gE j))))] H := hP
  have hD : va_D A [(hm, .inr (3, [.int (nI 1), .int (nI nd), .ref q0, .ref q1, .int (nI mi), .int (nI ml), .ref q2, .ref q3, .ref q4, .ref q5, .ref q6, .ref q7, .ref q8, .ref q9, .int (nI sp), .int fa])), (q0, .inl (cI, 401, .inl fs)), (q1, .inl (cJ, 25664, .inr (.inl ft))), (q2, .inl (cI, 4, .inl fl)), (q3, .inl (cI, 8, .inl (fun j => nI (gS j)))), (q4, .inl (cI, 8, .inl (fun j => nI (gX j)))), (q5, .inl (cI, 8, .inl (fun j => nI (gT j)))), (q6, .inl (cI, 2, .inl (fun j => nI (gC j)))), (q7, .inl (cI, 32, .inl (fun j => nI (gO j)))), (q8, .inl (cI, 32, .inl fD)), (q9, .inl (cI, 2, .inl (fun j => nI (gE j))))] := hD
  refine lv_iload_n hx hb dX3_count_18 rfl (lv_at hl 1 rfl) ?_
  refine lv_tableOut (tgt := 101) hx hb dX3_count_19 hx9 (by decide) ?_
  refine lv_iconst (v := nI 0) hx hb dX3_count_101 (by decide) ?_
  exact wr_i (()) hx hb hr hlocks hP hD hS dX3_count_102 (rfl) (trivial)
end MW4
