/-! The model: step. -/
theorem sp_ne {n : Nat} (h : n < 2 ^ 31) : ¬ nI n = -1 := fun q => nI_pos h (by rw [q]; decide)
theorem tsF_lt {ft : Nat → Int64} {gX gT : Nat → Nat} {k o i : Nat} (h : ∀ j, j < 8 → gT j < 2) (j : Nat) (hj : j < 8) : tsF ft gX gT k o i j < 2 := by
  unfold tsF
  split
  · exact Nat.lt_succ_of_le (Bool.toNat_le _)
  · exact h j hj
theorem asF_eq {iv o : Nat} {g h : Nat → Nat} : ∀ k, (∀ j, j < k → g (o + j) = h (o + j)) → asF iv g o k = asF iv h o k
  | 0, _ => rfl
  | k + 1, q => by unfold asF; rw [asF_eq k (fun j hj => q j (by omega)), q k (by omega)]
theorem asF_ts {iv k ml : Nat} {ft : Nat → Int64} {gX gT : Nat → Nat} (h : ml ≤ 4) : asF iv (tsF ft gX gT k 0 ml) (4 * 1) ml = asF iv gT 4 ml :=
  asF_eq ml (fun j hj => if_neg (by omega))
section MW5
variable (l : Launch) (D : va_G) (cI cJ : ClassId) (tp : Nat) (hm q0 q1 q2 q3 q4 q5 q6 q7 q8 q9 : Nat) (th : Int32) (nd : Nat) (fs : Nat → Int32) (ft : Nat → Int64) (mi ml : Nat) (fl : Nat → Int32) (gS gX gT gC gO : Nat → Nat) (fD : Nat → Int32) (gE : Nat → Nat) (sp : Nat) (fa : Int32)
set_option maxHeartbeats 4000000 in
set_option maxRecDepth 100000 in
/-- step -/
theorem w_X3_step (inp : Int32) (iv kA kB : Nat) (hiv : inp &&& nI (2 ^ mi - 1) = nI iv) (hiv2 : iv < 256) (hkA : asF iv gT 0 ml = kA) (hkB : asF iv gT 4 ml = kB) (hkA2 : kA < 4096) (hkB2 : kB < 4096) (hT : ∀ j, j < 8 → gT j < 2) (hsp : sp < 2 ^ 31) (hmi : mi ≤ 8) (hml9 : ml ≤ 4) (hc0 : gC 0 ≤ 16) (hc1 : gC 1 ≤ 16) (hO0 : ∀ j, j < gC 0 → gO j < 2 * nd) (hO1 : ∀ j, j < gC 1 → gO (16 + j) < 2 * nd) (hX : ∀ j, j < ml → gX j < 2 * nd ∧ gX (4 + j) < 2 * nd) (hnd : nd ≤ 400) (sz : Nat) : Met l yX3_step wsX3_step { frames := 1, cells := 0, slots := 0, locals := 24 } (wr_P D [(cI, .int), (cJ, .long)] (mW hm q0 q1 q2 q3 q4 q5 q6 q7 q8 q9 cI cJ th nd fs ft mi ml fl gS gX gT gC gO fD gE sp fa) sz tp [.ref hm, .int inp]) (wx (Su := Unit) D [(cI, .int), (cJ, .long)] (va_A (mW hm q0 q1 q2 q3 q4 q5 q6 q7 q8 q9 cI cJ th nd fs ft mi ml fl gS gX gT gC gO fD gE sp fa) sz) (fun _ => some (.int (nI (sp + 1)))) (fun _ => True) (fun _ => mW hm q0 q1 q2 q3 q4 q5 q6 q7 q8 q9 cI cJ (nI 0) nd fs ft mi ml fl gS gX (tsF ft gX (tsF ft gX gT kA 0 ml) kB 4 ml) gC gO (tdF ft gO (tdF ft gO fD kA 0 (gC 0)) kB 16 (gC 1)) (va_up (va_up gE 0 (gC 0)) 1 (gC 1)) (sp + 1) ((if fa = -1 then (if saF (tdF ft gO (tdF ft gO fD kA 0 (gC 0)) kB 16 (gC 1)) (fun j => (tdF ft gO (tdF ft gO fD kA 0 (gC 0)) kB 16 (gC 1)) (16 + j)) (min (gC 0) (gC 1)) 0 = true then nI sp else -1) else fa)))) 0 0 (va_A (mW hm q0 q1 q2 q3 q4 q5 q6 q7 q8 q9 cI cJ th nd fs ft mi ml fl gS gX gT gC gO fD gE sp fa) sz) := by
  refine Met.ofW (cc := cX3_step) (maxL := 5) (ret := (some .int)) (by decide) rfl ?_
  intro p e s m args below meth c s₁ B hml hv
  obtain ⟨rfl, hsz, ⟨hP, hK, hD0⟩, hE⟩ := hv
  have hx := B.exec
  have hb := B.bytes
  have hr := B.returns
  have hts := atoms_spec (ws := wsX3_step) B.pre
  have hown : s.vm.findClass RX3 = some m.cls := findClass_of_methodNamed B.named
  have hlocks := B.notSynchronized
  subst hsz
  have hD := hD0.self (sz := s.heap.size)
  generalize hAe : va_A (mW hm q0 q1 q2 q3 q4 q5 q6 q7 q8 q9 cI cJ th nd fs ft mi ml fl gS gX gT gC gO fD gE sp fa) s.heap.size = A at hD hE ⊢
  have hA : ∀ q : Nat, s.heap.size ≤ q → A q := fun q h => by rw [← hAe]; exact Or.inr h
  have hS : va_S A s.heap s.heap [] := va_S.rf
  have hP : va_P D vwCl [(hm, .inr (3, [.int th, .int (nI nd), .ref q0, .ref q1, .int (nI mi), .int (nI ml), .ref q2, .ref q3, .ref q4, .ref q5, .ref q6, .ref q7, .ref q8, .ref q9, .int (nI sp), .int fa])), (q0, .inl (cI, 401, .inl fs)), (q1, .inl (cJ, 25664, .inr (.inl ft))), (q2, .inl (cI, 4, .inl fl)), (q3, .inl (cI, 8, .inl (fun j => nI (gS j)))), (q4, .inl (cI, 8, .inl (fun j => nI (gX j)))), (q5, .inl (cI, 8, .inl (fun j => nI (gT j)))), (q6, .inl (cI, 2, .inl (fun j => nI (gC j)))), (q7, .inl (cI, 32, .inl (fun j => nI (gO j)))), (q8, .inl (cI, 32, .inl fD)), (q9, .inl (cI, 2, .inl (fun j => nI (gE j))))] s.heap := hP
  have hD : va_D A [(hm, .inr (3, [.int th, .int (nI nd), .ref q0, .ref q1, .int (nI mi), .int (nI ml), .ref q2, .ref q3, .ref q4, .ref q5, .ref q6, .ref q7, .ref q8, .ref q9, .int (nI sp), .int fa])), (q0, .inl (cI, 401, .inl fs)), (q1, .inl (cJ, 25664, .inr (.inl ft))), (q2, .inl (cI, 4, .inl fl)), (q3, .inl (cI, 8, .inl (fun j => nI (gS j)))), (q4, .inl (cI, 8, .inl (fun j => nI (gX j)))), (q5, .inl (cI, 8, .inl (fun j => nI (gT j)))), (q6, .inl (cI, 2, .inl (fun j => nI (gC j)))), (q7, .inl (cI, 32, .inl (fun j => nI (gO j)))), (q8, .inl (cI, 32, .inl fD)), (q9, .inl (cI, 2, .inl (fun j => nI (gE j))))] := hD
  have hl := lv_entry ([.ref hm, .int inp]) (n := 5) (Nat.le_of_ble_eq_true rfl)
  rw [lg_entry_eq]
  generalize (lg_sl ([.ref hm, .int inp]) ++ List.replicate (5 - (lg_sl ([.ref hm, .int inp])).length) Slot.unset).toArray = ls at hl ⊢
  have hl : lv_has ls 5 [(0, .ref hm), (1, .int inp)] := hl
  have hin3 : ∀ w ∈ wsX30, w ∈ wsX3_step := by decide +kernel
  have kf44 := hts (.fieldLink RX3 44 "SweepEqualModel" "thrown" "I") (by decide +kernel)
  have kf29 := hts (.fieldLink RX3 29 "SweepEqualModel" "outputCounts" "[I") (by decide +kernel)
  have kf35 := hts (.fieldLink RX3 35 "SweepEqualModel" "told" "[I") (by decide +kernel)
  have kf32 := hts (.fieldLink RX3 32 "SweepEqualModel" "outputs" "[I") (by decide +kernel)
  have kf38 := hts (.fieldLink RX3 38 "SweepEqualModel" "toldCounts" "[I") (by decide +kernel)
  have kf54 := hts (.fieldLink RX3 54 "SweepEqualModel" "latches" "I") (by decide +kernel)
  have kf26 := hts (.fieldLink RX3 26 "SweepEqualModel" "states" "[I") (by decide +kernel)
  have kf23 := hts (.fieldLink RX3 23 "SweepEqualModel" "nexts" "[I") (by decide +kernel)
  have kf106 := hts (.fieldLink RX3 106 "SweepEqualModel" "firstApart" "I") (by decide +kernel)
  have kf103 := hts (.fieldLink RX3 103 "SweepEqualModel" "steps" "I") (by decide +kernel)
  refine lv_aload_n hx hb dX3_step_0 rfl (lv_at hl 0 rfl) ?_
  refine lv_iconst (v := nI 0) hx hb dX3_step_1 (by decide) ?_
  refine va_put (D := D) (ci := 3) (v := .int (nI 0)) (ty := .int) (C := RX3) (T := TX3) (N := 16) hx hb hts hin3 tyX3 tyX3_ok nmX3 hown hK hP hD hS 0 rfl rfl 0 (by decide) kf44 (fun _ h9 => h9) rfl (by decide +kernel) rfl rfl (Nat.le_of_ble_eq_true rfl) dX3_step_2 (fun H locs hP hD hS => ?_)
  have hP : va_P D vwCl [(hm, .inr (3, [.int (nI 0), .int (nI nd), .ref q0, .ref q1, .int (nI mi), .int (nI ml), .ref q2, .ref q3, .ref q4, .ref q5, .ref q6, .ref q7, .ref q8, .ref q9, .int (nI sp), .int fa])), (q0, .inl (cI, 401, .inl fs)), (q1, .inl (cJ, 25664, .inr (.inl ft))), (q2, .inl (cI, 4, .inl fl)), (q3, .inl (cI, 8, .inl (fun j => nI (gS j)))), (q4, .inl (cI, 8, .inl (fun j => nI (gX j)))), (q5, .inl (cI, 8, .inl (fun j => nI (gT j)))), (q6, .inl (cI, 2, .inl (fun j => nI (gC j)))), (q7, .inl (cI, 32, .inl (fun j => nI (gO j)))), (q8, .inl (cI, 32, .inl fD)), (q9, .inl (cI, 2, .inl (fun j => nI (gE j))))] H := hP
  have hD : va_D A [(hm, .inr (3, [.int (nI 0), .int (nI nd), .ref q0, .ref q1, .int (nI mi), .int (nI ml), .ref q2, .ref q3, .ref q4, .ref q5, .ref q6, .ref q7, .ref q8, .ref q9, .int (nI sp), .int fa])), (q0, .inl (cI, 401, .inl fs)), (q1, .inl (cJ, 25664, .inr (.inl ft))), (q2, .inl (cI, 4, .inl fl)), (q3, .inl (cI, 8, .inl (fun j => nI (gS j)))), (q4, .inl (cI, 8, .inl (fun j => nI (gX j)))), (q5, .inl (cI, 8, .inl (fun j => nI (gT j)))), (q6, .inl (cI, 2, .inl (fun j => nI (gC j)))), (q7, .inl (cI, 32, .inl (fun j => nI (gO j)))), (q8, .inl (cI, 32, .inl fD)), (q9, .inl (cI, 2, .inl (fun j => nI (gE j))))] := hD
  refine lv_iconst (v := nI 0) hx hb dX3_step_5 (by decide) ?_
  refine lv_istore_n (lv' := [(2, .int (nI 0)), (0, .ref hm), (1, .int inp)]) hx hb dX3_step_6 rfl hl (by decide) rfl (fun ls hl => ?_)
  refine lv_iload_n hx hb dX3_step_7 rfl (lv_at hl 0 rfl) ?_
  refine lv_iconst (v := nI 2) hx hb dX3_step_8 (by decide) ?_
  refine lv_icmp_ge (tgt := 131) hx hb dX3_step_9 (by decide) (fun hc => absurd hc (by decide)) (fun _ => ?_)
  refine lv_aload_n hx hb dX3_step_12 rfl (lv_at hl 1 rfl) ?_
  refine lv_iload_n hx hb dX3_step_13 rfl (lv_at hl 0 rfl) ?_
  refine lv_iload_n hx hb dX3_step_14 rfl (lv_at hl 2 rfl) ?_
  refine rd_V (As := [.int (nI 0), .int inp]) (rest := []) ⟨hx, hb, hml, hown, hts⟩ (c_X3_assignment l D cI cJ hm q0 q1 q2 q3 q4 q5 q6 q7 q8 q9 (nI 0) nd fs ft mi ml fl gS gX gT gC gO fD gE sp fa 0 inp iv hiv hiv2 (by omega) hmi hml9 hT) (cwV 2 hts gX3_step_X3_assignment rfl rfl rfl (by decide +kernel) ⟨Nat.le_of_ble_eq_true rfl, Nat.le_of_ble_eq_true rfl⟩) (rd_pv (ci := 3) (q0 := 0) hK hP rfl rfl) rfl hl.1 rfl (Nat.le_of_ble_eq_true rfl) dX3_step_15 ⟨by show _ ≤ _; simp only [headSpec]; omega, by show _ ≤ _; simp only [headSpec]; omega⟩ ?_
  refine tp_i (show nI (asF iv gT (4 * 0) ml) = nI kA from congrArg nI hkA) ?_
  refine lv_istore_n (lv' := [(3, .int (nI kA)), (2, .int (nI 0)), (0, .ref hm), (1, .int inp)]) hx hb dX3_step_18 rfl hl (by decide) rfl (fun ls hl => ?_)
  refine lv_iconst (v := nI 0) hx hb dX3_step_19 (by decide) ?_
  refine lv_istore (lv' := [(4, .int (nI 0)), (3, .int (nI kA)), (2, .int (nI 0)), (0, .ref hm), (1, .int inp)]) hx hb dX3_step_20 hl (by decide) rfl (fun ls hl => ?_)
  have loopO0 : ∀ (n : Nat) (i : Nat), i ≤ gC 0 → gC 0 - i < n → ∀ (H : Heap) (locs : List Loc) (ls : Array Slot), va_P D vwCl [(hm, .inr (3, [.int (nI 0), .int (nI nd), .ref q0, .ref q1, .int (nI mi), .int (nI ml), .ref q2, .ref q3, .ref q4, .ref q5, .ref q6, .ref q7, .ref q8, .ref q9, .int (nI sp), .int fa])), (q0, .inl (cI, 401, .inl fs)), (q1, .inl (cJ, 25664, .inr (.inl ft))), (q2, .inl (cI, 4, .inl fl)), (q3, .inl (cI, 8, .inl (fun j => nI (gS j)))), (q4, .inl (cI, 8, .inl (fun j => nI (gX j)))), (q5, .inl (cI, 8, .inl (fun j => nI (gT j)))), (q6, .inl (cI, 2, .inl (fun j => nI (gC j)))), (q7, .inl (cI, 32, .inl (fun j => nI (gO j)))), (q8, .inl (cI, 32, .inl (tdF ft gO fD kA 0 i))), (q9, .inl (cI, 2, .inl (fun j => nI (gE j))))] H → va_D A [(hm, .inr (3, [.int (nI 0), .int (nI nd), .ref q0, .ref q1, .int (nI mi), .int (nI ml), .ref q2, .ref q3, .ref q4, .ref q5, .ref q6, .ref q7, .ref q8, .ref q9, .int (nI sp), .int fa])), (q0, .inl (cI, 401, .inl fs)), (q1, .inl (cJ, 25664, .inr (.inl ft))), (q2, .inl (cI, 4, .inl fl)), (q3, .inl (cI, 8, .inl (fun j => nI (gS j)))), (q4, .inl (cI, 8, .inl (fun j => nI (gX j)))), (q5, .inl (cI, 8, .inl (fun j => nI (gT j)))), (q6, .inl (cI, 2, .inl (fun j => nI (gC j)))), (q7, .inl (cI, 32, .inl (fun j => nI (gO j)))), (q8, .inl (cI, 32, .inl (tdF ft gO fD kA 0 i))), (q9, .inl (cI, 2, .inl (fun j => nI (gE j))))] → va_S A s.heap H locs → lv_has ls 5 [(4, .int (nI i)), (3, .int (nI kA)), (2, .int (nI 0)), (0, .ref hm), (1, .int inp)] → W p l e (headSpec wsX3_step { frames := 1, cells := 0, slots := 0, locals := 24 }).room s m ([.ref hm, .int inp] : List Value).toArray below meth c H locs 0 0 (MQ below (wx (Su := Unit) D [(cI, .int), (cJ, .long)] A (fun _ => some (.int (nI (sp + 1)))) (fun _ => True) (fun _ => mW hm q0 q1 q2 q3 q4 q5 q6 q7 q8 q9 cI cJ (nI 0) nd fs ft mi ml fl gS gX (tsF ft gX (tsF ft gX gT kA 0 ml) kB 4 ml) gC gO (tdF ft gO (tdF ft gO fD kA 0 (gC 0)) kB 16 (gC 1)) (va_up (va_up gE 0 (gC 0)) 1 (gC 1)) (sp + 1) ((if fa = -1 then (if saF (tdF ft gO (tdF ft gO fD kA 0 (gC 0)) kB 16 (gC 1)) (fun j => (tdF ft gO (tdF ft gO fD kA 0 (gC 0)) kB 16 (gC 1)) (16 + j)) (min (gC 0) (gC 1)) 0 = true then nI sp else -1) else fa)))) ([.ref hm, .int inp] : List Value).toArray s 0 0 A) (F0 m 22 ls []) := by
    intro n
    induction n with
    | zero => intro i hi hM; exact absurd hM (Nat.not_lt_zero _)
    | succ n ih =>
      intro i hi hM H locs ls hP hD hS hl
      refine lv_iload hx hb dX3_step_22 (lv_at hl 0 rfl) ?_
      refine lv_aload_n hx hb dX3_step_24 rfl (lv_at hl 3 rfl) ?_
      refine va_get (D := D) (ci := 3) (v := .ref q6) (C := RX3) (T := TX3) (N := 16) hx hb hts hin3 hown hK hP 0 rfl rfl 10 (by decide) kf29 (fun _ h9 => h9) rfl dX3_step_25 ?_
      refine lv_iload_n hx hb dX3_step_28 rfl (lv_at hl 2 rfl) ?_
      refine va_iald hx hb hK hP 7 0 rfl rfl (vp_in_nI (by omega) (by omega)) dX3_step_29 ?_
      refine tp_i (show (fun j => nI (gC j)) (nI 0).toNatClampNeg = nI (gC 0) from congrArg (fun j => nI (gC j)) (nI_clamp (by omega))) ?_
      refine lv_icmp_ge (tgt := 68) hx hb dX3_step_30 (by decide) (fun c1 => ?_) (fun c1 => ?_)
      · have c1 : gC 0 ≤ i := (nI_leI (by omega) (by omega)).mp c1
        have hi2 : i = gC 0 := by omega
        rw [hi2] at hP hD
        refine lv_aload_n hx hb dX3_step_68 rfl (lv_at hl 3 rfl) ?_
        refine va_get (D := D) (ci := 3) (v := .ref q9) (C := RX3) (T := TX3) (N := 16) hx hb hts hin3 hown hK hP 0 rfl rfl 13 (by decide) kf38 (fun _ h9 => h9) rfl dX3_step_69 ?_
        refine lv_iload_n hx hb dX3_step_72 rfl (lv_at hl 2 rfl) ?_
        refine lv_aload_n hx hb dX3_step_73 rfl (lv_at hl 3 rfl) ?_
        refine va_get (D := D) (ci := 3) (v := .ref q6) (C := RX3) (T := TX3) (N := 16) hx hb hts hin3 hown hK hP 0 rfl rfl 10 (by decide) kf29 (fun _ h9 => h9) rfl dX3_step_74 ?_
        refine lv_iload_n hx hb dX3_step_77 rfl (lv_at hl 2 rfl) ?_
        refine va_iald hx hb hK hP 7 0 rfl rfl (vp_in_nI (by omega) (by omega)) dX3_step_78 ?_
        refine tp_i (show (fun j => nI (gC j)) (nI 0).toNatClampNeg = nI (gC 0) from congrArg (fun j => nI (gC j)) (nI_clamp (by omega))) ?_
        refine va_iast hx hb hK hP hD hS 10 0 rfl rfl (vp_in_nI (by omega) (by omega)) dX3_step_79 (fun H locs hP hD hS => ?_)
        have hP : va_P D vwCl [(hm, .inr (3, [.int (nI 0), .int (nI nd), .ref q0, .ref q1, .int (nI mi), .int (nI ml), .ref q2, .ref q3, .ref q4, .ref q5, .ref q6, .ref q7, .ref q8, .ref q9, .int (nI sp), .int fa])), (q0, .inl (cI, 401, .inl fs)), (q1, .inl (cJ, 25664, .inr (.inl ft))), (q2, .inl (cI, 4, .inl fl)), (q3, .inl (cI, 8, .inl (fun j => nI (gS j)))), (q4, .inl (cI, 8, .inl (fun j => nI (gX j)))), (q5, .inl (cI, 8, .inl (fun j => nI (gT j)))), (q6, .inl (cI, 2, .inl (fun j => nI (gC j)))), (q7, .inl (cI, 32, .inl (fun j => nI (gO j)))), (q8, .inl (cI, 32, .inl (tdF ft gO fD kA 0 (gC 0)))), (q9, .inl (cI, 2, .inl (upd (fun j => nI (gE j)) (nI 0).toNatClampNeg (nI (gC 0)))))] H := hP
        have hD : va_D A [(hm, .inr (3, [.int (nI 0), .int (nI nd), .ref q0, .ref q1, .int (nI mi), .int (nI ml), .ref q2, .ref q3, .ref q4, .ref q5, .ref q6, .ref q7, .ref q8, .ref q9, .int (nI sp), .int fa])), (q0, .inl (cI, 401, .inl fs)), (q1, .inl (cJ, 25664, .inr (.inl ft))), (q2, .inl (cI, 4, .inl fl)), (q3, .inl (cI, 8, .inl (fun j => nI (gS j)))), (q4, .inl (cI, 8, .inl (fun j => nI (gX j)))), (q5, .inl (cI, 8, .inl (fun j => nI (gT j)))), (q6, .inl (cI, 2, .inl (fun j => nI (gC j)))), (q7, .inl (cI, 32, .inl (fun j => nI (gO j)))), (q8, .inl (cI, 32, .inl (tdF ft gO fD kA 0 (gC 0)))), (q9, .inl (cI, 2, .inl (upd (fun j => nI (gE j)) (nI 0).toNatClampNeg (nI (gC 0)))))] := hD
        rw [show upd (fun j => nI (gE j)) (nI 0).toNatClampNeg (nI (gC 0)) = fun j => nI ((va_up gE 0 (gC 0)) j) from upN _ (by omega)] at hP hD
        refine lv_iconst (v := nI 0) hx hb dX3_step_80 (by decide) ?_
        refine lv_istore (lv' := [(4, .int (nI 0)), (3, .int (nI kA)), (2, .int (nI 0)), (0, .ref hm), (1, .int inp)]) hx hb dX3_step_81 hl (by decide) rfl (fun ls hl => ?_)
        have loopT0 : ∀ (n : Nat) (i : Nat), i ≤ ml → ml - i < n → ∀ (H : Heap) (locs : List Loc) (ls : Array Slot), va_P D vwCl [(hm, .inr (3, [.int (nI 0), .int (nI nd), .ref q0, .ref q1, .int (nI mi), .int (nI ml), .ref q2, .ref q3, .ref q4, .ref q5, .ref q6, .ref q7, .ref q8, .ref q9, .int (nI sp), .int fa])), (q0, .inl (cI, 401, .inl fs)), (q1, .inl (cJ, 25664, .inr (.inl ft))), (q2, .inl (cI, 4, .inl fl)), (q3, .inl (cI, 8, .inl (fun j => nI (gS j)))), (q4, .inl (cI, 8, .inl (fun j => nI (gX j)))), (q5, .inl (cI, 8, .inl (fun j => nI ((tsF ft gX gT kA 0 i) j)))), (q6, .inl (cI, 2, .inl (fun j => nI (gC j)))), (q7, .inl (cI, 32, .inl (fun j => nI (gO j)))), (q8, .inl (cI, 32, .inl (tdF ft gO fD kA 0 (gC 0)))), (q9, .inl (cI, 2, .inl (fun j => nI ((va_up gE 0 (gC 0)) j))))] H → va_D A [(hm, .inr (3, [.int (nI 0), .int (nI nd), .ref q0, .ref q1, .int (nI mi), .int (nI ml), .ref q2, .ref q3, .ref q4, .ref q5, .ref q6, .ref q7, .ref q8, .ref q9, .int (nI sp), .int fa])), (q0, .inl (cI, 401, .inl fs)), (q1, .inl (cJ, 25664, .inr (.inl ft))), (q2, .inl (cI, 4, .inl fl)), (q3, .inl (cI, 8, .inl (fun j => nI (gS j)))), (q4, .inl (cI, 8, .inl (fun j => nI (gX j)))), (q5, .inl (cI, 8, .inl (fun j => nI ((tsF ft gX gT kA 0 i) j)))), (q6, .inl (cI, 2, .inl (fun j => nI (gC j)))), (q7, .inl (cI, 32, .inl (fun j => nI (gO j)))), (q8, .inl (cI, 32, .inl (tdF ft gO fD kA 0 (gC 0)))), (q9, .inl (cI, 2, .inl (fun j => nI ((va_up gE 0 (gC 0)) j))))] → va_S A s.heap H locs → lv_has ls 5 [(4, .int (nI i)), (3, .int (nI kA)), (2, .int (nI 0)), (0, .ref hm), (1, .int inp)] → W p l e (headSpec wsX3_step { frames := 1, cells := 0, slots := 0, locals := 24 }).room s m ([.ref hm, .int inp] : List Value).toArray below meth c H locs 0 0 (MQ below (wx (Su := Unit) D [(cI, .int), (cJ, .long)] A (fun _ => some (.int (nI (sp + 1)))) (fun _ => True) (fun _ => mW hm q0 q1 q2 q3 q4 q5 q6 q7 q8 q9 cI cJ (nI 0) nd fs ft mi ml fl gS gX (tsF ft gX (tsF ft gX gT kA 0 ml) kB 4 ml) gC gO (tdF ft gO (tdF ft gO fD kA 0 (gC 0)) kB 16 (gC 1)) (va_up (va_up gE 0 (gC 0)) 1 (gC 1)) (sp + 1) ((if fa = -1 then (if saF (tdF ft gO (tdF ft gO fD kA 0 (gC 0)) kB 16 (gC 1)) (fun j => (tdF ft gO (tdF ft gO fD kA 0 (gC 0)) kB 16 (gC 1)) (16 + j)) (min (gC 0) (gC 1)) 0 = true then nI sp else -1) else fa)))) ([.ref hm, .int inp] : List Value).toArray s 0 0 A) (F0 m 83 ls []) := by
          intro n
          induction n with
          | zero => intro i hi hM; exact absurd hM (Nat.not_lt_zero _)
          | succ n ih =>
            intro i hi hM H locs ls hP hD hS hl
            refine lv_iload hx hb dX3_step_83 (lv_at hl 0 rfl) ?_
            refine lv_aload_n hx hb dX3_step_85 rfl (lv_at hl 3 rfl) ?_
            refine va_get (D := D) (ci := 3) (v := .int (nI ml)) (C := RX3) (T := TX3) (N := 16) hx hb hts hin3 hown hK hP 0 rfl rfl 5 (by decide) kf54 (fun _ h9 => h9) rfl dX3_step_86 ?_
            refine lv_icmp_ge (tgt := 125) hx hb dX3_step_89 (by decide) (fun c1 => ?_) (fun c1 => ?_)
            · have c1 : ml ≤ i := (nI_leI (by omega) (by omega)).mp c1
              have hi2 : i = ml := by omega
              rw [hi2] at hP hD
              refine lv_iinc (v := nI 1) (lv' := [(2, .int (nI 1)), (4, .int (nI i)), (3, .int (nI kA)), (0, .ref hm), (1, .int inp)]) hx hb dX3_step_125 hl (k := 2) rfl (by decide) (by decide) rfl (fun ls hl => ?_)
              refine lv_goto (tgt := 7) hx hb dX3_step_128 (by decide) ?_
              refine lv_iload_n hx hb dX3_step_7 rfl (lv_at hl 0 rfl) ?_
              refine lv_iconst (v := nI 2) hx hb dX3_step_8 (by decide) ?_
              refine lv_icmp_ge (tgt := 131) hx hb dX3_step_9 (by decide) (fun hc => absurd hc (by decide)) (fun _ => ?_)
              refine lv_aload_n hx hb dX3_step_12 rfl (lv_at hl 3 rfl) ?_
              refine lv_iload_n hx hb dX3_step_13 rfl (lv_at hl 0 rfl) ?_
              refine lv_iload_n hx hb dX3_step_14 rfl (lv_at hl 4 rfl) ?_
              refine rd_V (As := [.int (nI 1), .int inp]) (rest := []) ⟨hx, hb, hml, hown, hts⟩ (c_X3_assignment l D cI cJ hm q0 q1 q2 q3 q4 q5 q6 q7 q8 q9 (nI 0) nd fs ft mi ml fl gS gX (tsF ft gX gT kA 0 ml) gC gO (tdF ft gO fD kA 0 (gC 0)) (va_up gE 0 (gC 0)) sp fa 1 inp iv hiv hiv2 (by omega) hmi hml9 (fun j hj => tsF_lt hT j hj)) (cwV 2 hts gX3_step_X3_assignment rfl rfl rfl (by decide +kernel) ⟨Nat.le_of_ble_eq_true rfl, Nat.le_of_ble_eq_true rfl⟩) (rd_pv (ci := 3) (q0 := 0) hK hP rfl rfl) rfl hl.1 rfl (Nat.le_of_ble_eq_true rfl) dX3_step_15 ⟨by show _ ≤ _; simp only [headSpec]; omega, by show _ ≤ _; simp only [headSpec]; omega⟩ ?_
              refine tp_i (show nI (asF iv (tsF ft gX gT kA 0 ml) (4 * 1) ml) = nI kB from congrArg nI ((asF_ts (by omega)).trans hkB)) ?_
              refine lv_istore_n (lv' := [(3, .int (nI kB)), (2, .int (nI 1)), (4, .int (nI i)), (0, .ref hm), (1, .int inp)]) hx hb dX3_step_18 rfl hl (by decide) rfl (fun ls hl => ?_)
              refine lv_iconst (v := nI 0) hx hb dX3_step_19 (by decide) ?_
              refine lv_istore (lv' := [(4, .int (nI 0)), (3, .int (nI kB)), (2, .int (nI 1)), (0, .ref hm), (1, .int inp)]) hx hb dX3_step_20 hl (by decide) rfl (fun ls hl => ?_)
              have loopO1 : ∀ (n : Nat) (i : Nat), i ≤ gC 1 → gC 1 - i < n → ∀ (H : Heap) (locs : List Loc) (ls : Array Slot), va_P D vwCl [(hm, .inr (3, [.int (nI 0), .int (nI nd), .ref q0, .ref q1, .int (nI mi), .int (nI ml), .ref q2, .ref q3, .ref q4, .ref q5, .ref q6, .ref q7, .ref q8, .ref q9, .int (nI sp), .int fa])), (q0, .inl (cI, 401, .inl fs)), (q1, .inl (cJ, 25664, .inr (.inl ft))), (q2, .inl (cI, 4, .inl fl)), (q3, .inl (cI, 8, .inl (fun j => nI (gS j)))), (q4, .inl (cI, 8, .inl (fun j => nI (gX j)))), (q5, .inl (cI, 8, .inl (fun j => nI ((tsF ft gX gT kA 0 ml) j)))), (q6, .inl (cI, 2, .inl (fun j => nI (gC j)))), (q7, .inl (cI, 32, .inl (fun j => nI (gO j)))), (q8, .inl (cI, 32, .inl (tdF ft gO (tdF ft gO fD kA 0 (gC 0)) kB 16 i))), (q9, .inl (cI, 2, .inl (fun j => nI ((va_up gE 0 (gC 0)) j))))] H → va_D A [(hm, .inr (3, [.int (nI 0), .int (nI nd), .ref q0, .ref q1, .int (nI mi), .int (nI ml), .ref q2, .ref q3, .ref q4, .ref q5, .ref q6, .ref q7, .ref q8, .ref q9, .int (nI sp), .int fa])), (q0, .inl (cI, 401, .inl fs)), (q1, .inl (cJ, 25664, .inr (.inl ft))), (q2, .inl (cI, 4, .inl fl)), (q3, .inl (cI, 8, .inl (fun j => nI (gS j)))), (q4, .inl (cI, 8, .inl (fun j => nI (gX j)))), (q5, .inl (cI, 8, .inl (fun j => nI ((tsF ft gX gT kA 0 ml) j)))), (q6, .inl (cI, 2, .inl (fun j => nI (gC j)))), (q7, .inl (cI, 32, .inl (fun j => nI (gO j)))), (q8, .inl (cI, 32, .inl (tdF ft gO (tdF ft gO fD kA 0 (gC 0)) kB 16 i))), (q9, .inl (cI, 2, .inl (fun j => nI ((va_up gE 0 (gC 0)) j))))] → va_S A s.heap H locs → lv_has ls 5 [(4, .int (nI i)), (3, .int (nI kB)), (2, .int (nI 1)), (0, .ref hm), (1, .int inp)] → W p l e (headSpec wsX3_step { frames := 1, cells := 0, slots := 0, locals := 24 }).room s m ([.ref hm, .int inp] : List Value).toArray below meth c H locs 0 0 (MQ below (wx (Su := Unit) D [(cI, .int), (cJ, .long)] A (fun _ => some (.int (nI (sp + 1)))) (fun _ => True) (fun _ => mW hm q0 q1 q2 q3 q4 q5 q6 q7 q8 q9 cI cJ (nI 0) nd fs ft mi ml fl gS gX (tsF ft gX (tsF ft gX gT kA 0 ml) kB 4 ml) gC gO (tdF ft gO (tdF ft gO fD kA 0 (gC 0)) kB 16 (gC 1)) (va_up (va_up gE 0 (gC 0)) 1 (gC 1)) (sp + 1) ((if fa = -1 then (if saF (tdF ft gO (tdF ft gO fD kA 0 (gC 0)) kB 16 (gC 1)) (fun j => (tdF ft gO (tdF ft gO fD kA 0 (gC 0)) kB 16 (gC 1)) (16 + j)) (min (gC 0) (gC 1)) 0 = true then nI sp else -1) else fa)))) ([.ref hm, .int inp] : List Value).toArray s 0 0 A) (F0 m 22 ls []) := by
                intro n
                induction n with
                | zero => intro i hi hM; exact absurd hM (Nat.not_lt_zero _)
                | succ n ih =>
                  intro i hi hM H locs ls hP hD hS hl
                  refine lv_iload hx hb dX3_step_22 (lv_at hl 0 rfl) ?_
                  refine lv_aload_n hx hb dX3_step_24 rfl (lv_at hl 3 rfl) ?_
                  refine va_get (D := D) (ci := 3) (v := .ref q6) (C := RX3) (T := TX3) (N := 16) hx hb hts hin3 hown hK hP 0 rfl rfl 10 (by decide) kf29 (fun _ h9 => h9) rfl dX3_step_25 ?_
                  refine lv_iload_n hx hb dX3_step_28 rfl (lv_at hl 2 rfl) ?_
                  refine va_iald hx hb hK hP 7 0 rfl rfl (vp_in_nI (by omega) (by omega)) dX3_step_29 ?_
                  refine tp_i (show (fun j => nI (gC j)) (nI 1).toNatClampNeg = nI (gC 1) from congrArg (fun j => nI (gC j)) (nI_clamp (by omega))) ?_
                  refine lv_icmp_ge (tgt := 68) hx hb dX3_step_30 (by decide) (fun c1 => ?_) (fun c1 => ?_)
                  · have c1 : gC 1 ≤ i := (nI_leI (by omega) (by omega)).mp c1
                    have hi2 : i = gC 1 := by omega
                    rw [hi2] at hP hD
                    refine lv_aload_n hx hb dX3_step_68 rfl (lv_at hl 3 rfl) ?_
                    refine va_get (D := D) (ci := 3) (v := .ref q9) (C := RX3) (T := TX3) (N := 16) hx hb hts hin3 hown hK hP 0 rfl rfl 13 (by decide) kf38 (fun _ h9 => h9) rfl dX3_step_69 ?_
                    refine lv_iload_n hx hb dX3_step_72 rfl (lv_at hl 2 rfl) ?_
                    refine lv_aload_n hx hb dX3_step_73 rfl (lv_at hl 3 rfl) ?_
                    refine va_get (D := D) (ci := 3) (v := .ref q6) (C := RX3) (T := TX3) (N := 16) hx hb hts hin3 hown hK hP 0 rfl rfl 10 (by decide) kf29 (fun _ h9 => h9) rfl dX3_step_74 ?_
                    refine lv_iload_n hx hb dX3_step_77 rfl (lv_at hl 2 rfl) ?_
                    refine va_iald hx hb hK hP 7 0 rfl rfl (vp_in_nI (by omega) (by omega)) dX3_step_78 ?_
                    refine tp_i (show (fun j => nI (gC j)) (nI 1).toNatClampNeg = nI (gC 1) from congrArg (fun j => nI (gC j)) (nI_clamp (by omega))) ?_
                    refine va_iast hx hb hK hP hD hS 10 0 rfl rfl (vp_in_nI (by omega) (by omega)) dX3_step_79 (fun H locs hP hD hS => ?_)
                    have hP : va_P D vwCl [(hm, .inr (3, [.int (nI 0), .int (nI nd), .ref q0, .ref q1, .int (nI mi), .int (nI ml), .ref q2, .ref q3, .ref q4, .ref q5, .ref q6, .ref q7, .ref q8, .ref q9, .int (nI sp), .int fa])), (q0, .inl (cI, 401, .inl fs)), (q1, .inl (cJ, 25664, .inr (.inl ft))), (q2, .inl (cI, 4, .inl fl)), (q3, .inl (cI, 8, .inl (fun j => nI (gS j)))), (q4, .inl (cI, 8, .inl (fun j => nI (gX j)))), (q5, .inl (cI, 8, .inl (fun j => nI ((tsF ft gX gT kA 0 ml) j)))), (q6, .inl (cI, 2, .inl (fun j => nI (gC j)))), (q7, .inl (cI, 32, .inl (fun j => nI (gO j)))), (q8, .inl (cI, 32, .inl (tdF ft gO (tdF ft gO fD kA 0 (gC 0)) kB 16 (gC 1)))), (q9, .inl (cI, 2, .inl (upd (fun j => nI ((va_up gE 0 (gC 0)) j)) (nI 1).toNatClampNeg (nI (gC 1)))))] H := hP
                    have hD : va_D A [(hm, .inr (3, [.int (nI 0), .int (nI nd), .ref q0, .ref q1, .int (nI mi), .int (nI ml), .ref q2, .ref q3, .ref q4, .ref q5, .ref q6, .ref q7, .ref q8, .ref q9, .int (nI sp), .int fa])), (q0, .inl (cI, 401, .inl fs)), (q1, .inl (cJ, 25664, .inr (.inl ft))), (q2, .inl (cI, 4, .inl fl)), (q3, .inl (cI, 8, .inl (fun j => nI (gS j)))), (q4, .inl (cI, 8, .inl (fun j => nI (gX j)))), (q5, .inl (cI, 8, .inl (fun j => nI ((tsF ft gX gT kA 0 ml) j)))), (q6, .inl (cI, 2, .inl (fun j => nI (gC j)))), (q7, .inl (cI, 32, .inl (fun j => nI (gO j)))), (q8, .inl (cI, 32, .inl (tdF ft gO (tdF ft gO fD kA 0 (gC 0)) kB 16 (gC 1)))), (q9, .inl (cI, 2, .inl (upd (fun j => nI ((va_up gE 0 (gC 0)) j)) (nI 1).toNatClampNeg (nI (gC 1)))))] := hD
                    rw [show upd (fun j => nI ((va_up gE 0 (gC 0)) j)) (nI 1).toNatClampNeg (nI (gC 1)) = fun j => nI ((va_up (va_up gE 0 (gC 0)) 1 (gC 1)) j) from upN _ (by omega)] at hP hD
                    refine lv_iconst (v := nI 0) hx hb dX3_step_80 (by decide) ?_
                    refine lv_istore (lv' := [(4, .int (nI 0)), (3, .int (nI kB)), (2, .int (nI 1)), (0, .ref hm), (1, .int inp)]) hx hb dX3_step_81 hl (by decide) rfl (fun ls hl => ?_)
                    have loopT1 : ∀ (n : Nat) (i : Nat), i ≤ ml → ml - i < n → ∀ (H : Heap) (locs : List Loc) (ls : Array Slot), va_P D vwCl [(hm, .inr (3, [.int (nI 0), .int (nI nd), .ref q0, .ref q1, .int (nI mi), .int (nI ml), .ref q2, .ref q3, .ref q4, .ref q5, .ref q6, .ref q7, .ref q8, .ref q9, .int (nI sp), .int fa])), (q0, .inl (cI, 401, .inl fs)), (q1, .inl (cJ, 25664, .inr (.inl ft))), (q2, .inl (cI, 4, .inl fl)), (q3, .inl (cI, 8, .inl (fun j => nI (gS j)))), (q4, .inl (cI, 8, .inl (fun j => nI (gX j)))), (q5, .inl (cI, 8, .inl (fun j => nI ((tsF ft gX (tsF ft gX gT kA 0 ml) kB 4 i) j)))), (q6, .inl (cI, 2, .inl (fun j => nI (gC j)))), (q7, .inl (cI, 32, .inl (fun j => nI (gO j)))), (q8, .inl (cI, 32, .inl (tdF ft gO (tdF ft gO fD kA 0 (gC 0)) kB 16 (gC 1)))), (q9, .inl (cI, 2, .inl (fun j => nI ((va_up (va_up gE 0 (gC 0)) 1 (gC 1)) j))))] H → va_D A [(hm, .inr (3, [.int (nI 0), .int (nI nd), .ref q0, .ref q1, .int (nI mi), .int (nI ml), .ref q2, .ref q3, .ref q4, .ref q5, .ref q6, .ref q7, .ref q8, .ref q9, .int (nI sp), .int fa])), (q0, .inl (cI, 401, .inl fs)), (q1, .inl (cJ, 25664, .inr (.inl ft))), (q2, .inl (cI, 4, .inl fl)), (q3, .inl (cI, 8, .inl (fun j => nI (gS j)))), (q4, .inl (cI, 8, .inl (fun j => nI (gX j)))), (q5, .inl (cI, 8, .inl (fun j => nI ((tsF ft gX (tsF ft gX gT kA 0 ml) kB 4 i) j)))), (q6, .inl (cI, 2, .inl (fun j => nI (gC j)))), (q7, .inl (cI, 32, .inl (fun j => nI (gO j)))), (q8, .inl (cI, 32, .inl (tdF ft gO (tdF ft gO fD kA 0 (gC 0)) kB 16 (gC 1)))), (q9, .inl (cI, 2, .inl (fun j => nI ((va_up (va_up gE 0 (gC 0)) 1 (gC 1)) j))))] → va_S A s.heap H locs → lv_has ls 5 [(4, .int (nI i)), (3, .int (nI kB)), (2, .int (nI 1)), (0, .ref hm), (1, .int inp)] → W p l e (headSpec wsX3_step { frames := 1, cells := 0, slots := 0, locals := 24 }).room s m ([.ref hm, .int inp] : List Value).toArray below meth c H locs 0 0 (MQ below (wx (Su := Unit) D [(cI, .int), (cJ, .long)] A (fun _ => some (.int (nI (sp + 1)))) (fun _ => True) (fun _ => mW hm q0 q1 q2 q3 q4 q5 q6 q7 q8 q9 cI cJ (nI 0) nd fs ft mi ml fl gS gX (tsF ft gX (tsF ft gX gT kA 0 ml) kB 4 ml) gC gO (tdF ft gO (tdF ft gO fD kA 0 (gC 0)) kB 16 (gC 1)) (va_up (va_up gE 0 (gC 0)) 1 (gC 1)) (sp + 1) ((if fa = -1 then (if saF (tdF ft gO (tdF ft gO fD kA 0 (gC 0)) kB 16 (gC 1)) (fun j => (tdF ft gO (tdF ft gO fD kA 0 (gC 0)) kB 16 (gC 1)) (16 + j)) (min (gC 0) (gC 1)) 0 = true then nI sp else -1) else fa)))) ([.ref hm, .int inp] : List Value).toArray s 0 0 A) (F0 m 83 ls []) := by
                      intro n
                      induction n with
                      | zero => intro i hi hM; exact absurd hM (Nat.not_lt_zero _)
                      | succ n ih =>
                        intro i hi hM H locs ls hP hD hS hl
                        refine lv_iload hx hb dX3_step_83 (lv_at hl 0 rfl) ?_
                        refine lv_aload_n hx hb dX3_step_85 rfl (lv_at hl 3 rfl) ?_
                        refine va_get (D := D) (ci := 3) (v := .int (nI ml)) (C := RX3) (T := TX3) (N := 16) hx hb hts hin3 hown hK hP 0 rfl rfl 5 (by decide) kf54 (fun _ h9 => h9) rfl dX3_step_86 ?_
                        refine lv_icmp_ge (tgt := 125) hx hb dX3_step_89 (by decide) (fun c1 => ?_) (fun c1 => ?_)
                        · have c1 : ml ≤ i := (nI_leI (by omega) (by omega)).mp c1
                          have hi2 : i = ml := by omega
                          rw [hi2] at hP hD
                          refine lv_iinc (v := nI 2) (lv' := [(2, .int (nI 2)), (4, .int (nI i)), (3, .int (nI kB)), (0, .ref hm), (1, .int inp)]) hx hb dX3_step_125 hl (k := 2) rfl (by decide) (by decide) rfl (fun ls hl => ?_)
                          refine lv_goto (tgt := 7) hx hb dX3_step_128 (by decide) ?_
                          refine lv_iload_n hx hb dX3_step_7 rfl (lv_at hl 0 rfl) ?_
                          refine lv_iconst (v := nI 2) hx hb dX3_step_8 (by decide) ?_
                          refine lv_icmp_ge (tgt := 131) hx hb dX3_step_9 (by decide) (fun _ => ?_) (fun hc => absurd hc (by decide))
                          refine lv_iconst (v := nI 0) hx hb dX3_step_131 (by decide) ?_
                          refine lv_istore_n (lv' := [(2, .int (nI 0)), (4, .int (nI i)), (3, .int (nI kB)), (0, .ref hm), (1, .int inp)]) hx hb dX3_step_132 rfl hl (by decide) rfl (fun ls hl => ?_)
                          have loopC : ∀ (n : Nat) (i : Nat) (v : Int32), i ≤ (min (gC 0) (gC 1)) → (if fa = -1 then (if saF (tdF ft gO (tdF ft gO fD kA 0 (gC 0)) kB 16 (gC 1)) (fun j => (tdF ft gO (tdF ft gO fD kA 0 (gC 0)) kB 16 (gC 1)) (16 + j)) (min (gC 0) (gC 1)) 0 = true then nI sp else -1) else fa) = (if v = -1 then (if saF (tdF ft gO (tdF ft gO fD kA 0 (gC 0)) kB 16 (gC 1)) (fun j => (tdF ft gO (tdF ft gO fD kA 0 (gC 0)) kB 16 (gC 1)) (16 + j)) ((min (gC 0) (gC 1)) - i) i = true then nI sp else -1) else v) → (min (gC 0) (gC 1)) - i < n → ∀ (H : Heap) (locs : List Loc) (ls : Array Slot), va_P D vwCl [(hm, .inr (3, [.int (nI 0), .int (nI nd), .ref q0, .ref q1, .int (nI mi), .int (nI ml), .ref q2, .ref q3, .ref q4, .ref q5, .ref q6, .ref q7, .ref q8, .ref q9, .int (nI sp), .int v])), (q0, .inl (cI, 401, .inl fs)), (q1, .inl (cJ, 25664, .inr (.inl ft))), (q2, .inl (cI, 4, .inl fl)), (q3, .inl (cI, 8, .inl (fun j => nI (gS j)))), (q4, .inl (cI, 8, .inl (fun j => nI (gX j)))), (q5, .inl (cI, 8, .inl (fun j => nI ((tsF ft gX (tsF ft gX gT kA 0 ml) kB 4 ml) j)))), (q6, .inl (cI, 2, .inl (fun j => nI (gC j)))), (q7, .inl (cI, 32, .inl (fun j => nI (gO j)))), (q8, .inl (cI, 32, .inl (tdF ft gO (tdF ft gO fD kA 0 (gC 0)) kB 16 (gC 1)))), (q9, .inl (cI, 2, .inl (fun j => nI ((va_up (va_up gE 0 (gC 0)) 1 (gC 1)) j))))] H → va_D A [(hm, .inr (3, [.int (nI 0), .int (nI nd), .ref q0, .ref q1, .int (nI mi), .int (nI ml), .ref q2, .ref q3, .ref q4, .ref q5, .ref q6, .ref q7, .ref q8, .ref q9, .int (nI sp), .int v])), (q0, .inl (cI, 401, .inl fs)), (q1, .inl (cJ, 25664, .inr (.inl ft))), (q2, .inl (cI, 4, .inl fl)), (q3, .inl (cI, 8, .inl (fun j => nI (gS j)))), (q4, .inl (cI, 8, .inl (fun j => nI (gX j)))), (q5, .inl (cI, 8, .inl (fun j => nI ((tsF ft gX (tsF ft gX gT kA 0 ml) kB 4 ml) j)))), (q6, .inl (cI, 2, .inl (fun j => nI (gC j)))), (q7, .inl (cI, 32, .inl (fun j => nI (gO j)))), (q8, .inl (cI, 32, .inl (tdF ft gO (tdF ft gO fD kA 0 (gC 0)) kB 16 (gC 1)))), (q9, .inl (cI, 2, .inl (fun j => nI ((va_up (va_up gE 0 (gC 0)) 1 (gC 1)) j))))] → va_S A s.heap H locs → lv_has ls 5 [(2, .int (nI i)), (0, .ref hm), (1, .int inp)] → W p l e (headSpec wsX3_step { frames := 1, cells := 0, slots := 0, locals := 24 }).room s m ([.ref hm, .int inp] : List Value).toArray below meth c H locs 0 0 (MQ below (wx (Su := Unit) D [(cI, .int), (cJ, .long)] A (fun _ => some (.int (nI (sp + 1)))) (fun _ => True) (fun _ => mW hm q0 q1 q2 q3 q4 q5 q6 q7 q8 q9 cI cJ (nI 0) nd fs ft mi ml fl gS gX (tsF ft gX (tsF ft gX gT kA 0 ml) kB 4 ml) gC gO (tdF ft gO (tdF ft gO fD kA 0 (gC 0)) kB 16 (gC 1)) (va_up (va_up gE 0 (gC 0)) 1 (gC 1)) (sp + 1) ((if fa = -1 then (if saF (tdF ft gO (tdF ft gO fD kA 0 (gC 0)) kB 16 (gC 1)) (fun j => (tdF ft gO (tdF ft gO fD kA 0 (gC 0)) kB 16 (gC 1)) (16 + j)) (min (gC 0) (gC 1)) 0 = true then nI sp else -1) else fa)))) ([.ref hm, .int inp] : List Value).toArray s 0 0 A) (F0 m 133 ls []) := by
                            intro n
                            induction n with
                            | zero => intro i v hi hR hM; exact absurd hM (Nat.not_lt_zero _)
                            | succ n ih =>
                              intro i v hi hR hM H locs ls hP hD hS hl
                              refine lv_iload_n hx hb dX3_step_133 rfl (lv_at hl 0 rfl) ?_
                              refine lv_aload_n hx hb dX3_step_134 rfl (lv_at hl 1 rfl) ?_
                              refine rd_V (As := []) (rest := [.int (nI i)]) ⟨hx, hb, hml, hown, hts⟩ (c_X3_both l D cI cJ hm q0 q1 q2 q3 q4 q5 q6 q7 q8 q9 (nI 0) nd fs ft mi ml fl gS gX (tsF ft gX (tsF ft gX gT kA 0 ml) kB 4 ml) gC gO (tdF ft gO (tdF ft gO fD kA 0 (gC 0)) kB 16 (gC 1)) (va_up (va_up gE 0 (gC 0)) 1 (gC 1)) sp v hc0 hc1) (cwV 0 hts gX3_step_X3_both rfl rfl rfl (by decide +kernel) ⟨Nat.le_of_ble_eq_true rfl, Nat.le_of_ble_eq_true rfl⟩) (rd_pv (ci := 3) (q0 := 0) hK hP rfl rfl) rfl hl.1 rfl (Nat.le_of_ble_eq_true rfl) dX3_step_135 ⟨by show _ ≤ _; simp only [headSpec]; omega, by show _ ≤ _; simp only [headSpec]; omega⟩ ?_
                              refine lv_icmp_ge (tgt := 188) hx hb dX3_step_138 (by decide) (fun c1 => ?_) (fun c1 => ?_)
                              · have c1 : min (gC 0) (gC 1) ≤ i := (nI_leI (by omega) (by omega)).mp c1
                                have hi2 : (min (gC 0) (gC 1)) - i = 0 := by omega
                                have hv : v = (if fa = -1 then (if saF (tdF ft gO (tdF ft gO fD kA 0 (gC 0)) kB 16 (gC 1)) (fun j => (tdF ft gO (tdF ft gO fD kA 0 (gC 0)) kB 16 (gC 1)) (16 + j)) (min (gC 0) (gC 1)) 0 = true then nI sp else -1) else fa) := by rw [hR, hi2]; by_cases h : v = -1 <;> simp [h, saF]
                                rw [hv] at hP hD
                                refine lv_aload_n hx hb dX3_step_188 rfl (lv_at hl 1 rfl) ?_
                                refine lv_dup hx hb dX3_step_189 rfl ?_
                                refine va_get (D := D) (ci := 3) (v := .int (nI sp)) (C := RX3) (T := TX3) (N := 16) hx hb hts hin3 hown hK hP 0 rfl rfl 14 (by decide) kf103 (fun _ h9 => h9) rfl dX3_step_190 ?_
                                refine lv_iconst (v := nI 1) hx hb dX3_step_193 (by decide) ?_
                                refine lv_iadd hx hb dX3_step_194 ?_
                                refine tp_i (show (nI sp) + (nI 1) = nI (sp + 1) from nI_add _ _) ?_
                                refine va_put (D := D) (ci := 3) (v := .int (nI (sp + 1))) (ty := .int) (C := RX3) (T := TX3) (N := 16) hx hb hts hin3 tyX3 tyX3_ok nmX3 hown hK hP hD hS 0 rfl rfl 14 (by decide) kf103 (fun _ h9 => h9) rfl (by decide +kernel) rfl rfl (Nat.le_of_ble_eq_true rfl) dX3_step_195 (fun H locs hP hD hS => ?_)
                                have hP : va_P D vwCl [(hm, .inr (3, [.int (nI 0), .int (nI nd), .ref q0, .ref q1, .int (nI mi), .int (nI ml), .ref q2, .ref q3, .ref q4, .ref q5, .ref q6, .ref q7, .ref q8, .ref q9, .int (nI (sp + 1)), .int ((if fa = -1 then (if saF (tdF ft gO (tdF ft gO fD kA 0 (gC 0)) kB 16 (gC 1)) (fun j => (tdF ft gO (tdF ft gO fD kA 0 (gC 0)) kB 16 (gC 1)) (16 + j)) (min (gC 0) (gC 1)) 0 = true then nI sp else -1) else fa))])), (q0, .inl (cI, 401, .inl fs)), (q1, .inl (cJ, 25664, .inr (.inl ft))), (q2, .inl (cI, 4, .inl fl)), (q3, .inl (cI, 8, .inl (fun j => nI (gS j)))), (q4, .inl (cI, 8, .inl (fun j => nI (gX j)))), (q5, .inl (cI, 8, .inl (fun j => nI ((tsF ft gX (tsF ft gX gT kA 0 ml) kB 4 ml) j)))), (q6, .inl (cI, 2, .inl (fun j => nI (gC j)))), (q7, .inl (cI, 32, .inl (fun j => nI (gO j)))), (q8, .inl (cI, 32, .inl (tdF ft gO (tdF ft gO fD kA 0 (gC 0)) kB 16 (gC 1)))), (q9, .inl (cI, 2, .inl (fun j => nI ((va_up (va_up gE 0 (gC 0)) 1 (gC 1)) j))))] H := hP
                                have hD : va_D A [(hm, .inr (3, [.int (nI 0), .int (nI nd), .ref q0, .ref q1, .int (nI mi), .int (nI ml), .ref q2, .ref q3, .ref q4, .ref q5, .ref q6, .ref q7, .ref q8, .ref q9, .int (nI (sp + 1)), .int ((if fa = -1 then (if saF (tdF ft gO (tdF ft gO fD kA 0 (gC 0)) kB 16 (gC 1)) (fun j => (tdF ft gO (tdF ft gO fD kA 0 (gC 0)) kB 16 (gC 1)) (16 + j)) (min (gC 0) (gC 1)) 0 = true then nI sp else -1) else fa))])), (q0, .inl (cI, 401, .inl fs)), (q1, .inl (cJ, 25664, .inr (.inl ft))), (q2, .inl (cI, 4, .inl fl)), (q3, .inl (cI, 8, .inl (fun j => nI (gS j)))), (q4, .inl (cI, 8, .inl (fun j => nI (gX j)))), (q5, .inl (cI, 8, .inl (fun j => nI ((tsF ft gX (tsF ft gX gT kA 0 ml) kB 4 ml) j)))), (q6, .inl (cI, 2, .inl (fun j => nI (gC j)))), (q7, .inl (cI, 32, .inl (fun j => nI (gO j)))), (q8, .inl (cI, 32, .inl (tdF ft gO (tdF ft gO fD kA 0 (gC 0)) kB 16 (gC 1)))), (q9, .inl (cI, 2, .inl (fun j => nI ((va_up (va_up gE 0 (gC 0)) 1 (gC 1)) j))))] := hD
                                refine lv_aload_n hx hb dX3_step_198 rfl (lv_at hl 1 rfl) ?_
                                refine va_get (D := D) (ci := 3) (v := .int (nI (sp + 1))) (C := RX3) (T := TX3) (N := 16) hx hb hts hin3 hown hK hP 0 rfl rfl 14 (by decide) kf103 (fun _ h9 => h9) rfl dX3_step_199 ?_
                                exact wr_i (()) hx hb hr hlocks hP hD hS dX3_step_202 (rfl) (trivial)
                              · have c1 : ¬ (min (gC 0) (gC 1) ≤ i) := fun h => c1 ((nI_leI (by omega) (by omega)).mpr h)
                                obtain ⟨n9, hn9⟩ : ∃ n9, (min (gC 0) (gC 1)) - i = n9 + 1 := ⟨(min (gC 0) (gC 1)) - i - 1, by omega⟩
                                have hn8 : (min (gC 0) (gC 1)) - (i + 1) = n9 := by omega
                                refine lv_aload_n hx hb dX3_step_141 rfl (lv_at hl 1 rfl) ?_
                                refine va_get (D := D) (ci := 3) (v := .int v) (C := RX3) (T := TX3) (N := 16) hx hb hts hin3 hown hK hP 0 rfl rfl 15 (by decide) kf106 (fun _ h9 => h9) rfl dX3_step_142 ?_
                                refine lv_iconst (v := -1) hx hb dX3_step_145 (by decide) ?_
                                refine lv_icmp_ne (tgt := 188) hx hb dX3_step_146 (by decide) (fun c2 => ?_) (fun c2 => ?_)
                                · have hv : v = (if fa = -1 then (if saF (tdF ft gO (tdF ft gO fD kA 0 (gC 0)) kB 16 (gC 1)) (fun j => (tdF ft gO (tdF ft gO fD kA 0 (gC 0)) kB 16 (gC 1)) (16 + j)) (min (gC 0) (gC 1)) 0 = true then nI sp else -1) else fa) := by rw [hR, if_neg c2]
                                  rw [hv] at hP hD
                                  refine lv_aload_n hx hb dX3_step_188 rfl (lv_at hl 1 rfl) ?_
                                  refine lv_dup hx hb dX3_step_189 rfl ?_
                                  refine va_get (D := D) (ci := 3) (v := .int (nI sp)) (C := RX3) (T := TX3) (N := 16) hx hb hts hin3 hown hK hP 0 rfl rfl 14 (by decide) kf103 (fun _ h9 => h9) rfl dX3_step_190 ?_
                                  refine lv_iconst (v := nI 1) hx hb dX3_step_193 (by decide) ?_
                                  refine lv_iadd hx hb dX3_step_194 ?_
                                  refine tp_i (show (nI sp) + (nI 1) = nI (sp + 1) from nI_add _ _) ?_
                                  refine va_put (D := D) (ci := 3) (v := .int (nI (sp + 1))) (ty := .int) (C := RX3) (T := TX3) (N := 16) hx hb hts hin3 tyX3 tyX3_ok nmX3 hown hK hP hD hS 0 rfl rfl 14 (by decide) kf103 (fun _ h9 => h9) rfl (by decide +kernel) rfl rfl (Nat.le_of_ble_eq_true rfl) dX3_step_195 (fun H locs hP hD hS => ?_)
                                  have hP : va_P D vwCl [(hm, .inr (3, [.int (nI 0), .int (nI nd), .ref q0, .ref q1, .int (nI mi), .int (nI ml), .ref q2, .ref q3, .ref q4, .ref q5, .ref q6, .ref q7, .ref q8, .ref q9, .int (nI (sp + 1)), .int ((if fa = -1 then (if saF (tdF ft gO (tdF ft gO fD kA 0 (gC 0)) kB 16 (gC 1)) (fun j => (tdF ft gO (tdF ft gO fD kA 0 (gC 0)) kB 16 (gC 1)) (16 + j)) (min (gC 0) (gC 1)) 0 = true then nI sp else -1) else fa))])), (q0, .inl (cI, 401, .inl fs)), (q1, .inl (cJ, 25664, .inr (.inl ft))), (q2, .inl (cI, 4, .inl fl)), (q3, .inl (cI, 8, .inl (fun j => nI (gS j)))), (q4, .inl (cI, 8, .inl (fun j => nI (gX j)))), (q5, .inl (cI, 8, .inl (fun j => nI ((tsF ft gX (tsF ft gX gT kA 0 ml) kB 4 ml) j)))), (q6, .inl (cI, 2, .inl (fun j => nI (gC j)))), (q7, .inl (cI, 32, .inl (fun j => nI (gO j)))), (q8, .inl (cI, 32, .inl (tdF ft gO (tdF ft gO fD kA 0 (gC 0)) kB 16 (gC 1)))), (q9, .inl (cI, 2, .inl (fun j => nI ((va_up (va_up gE 0 (gC 0)) 1 (gC 1)) j))))] H := hP
                                  have hD : va_D A [(hm, .inr (3, [.int (nI 0), .int (nI nd), .ref q0, .ref q1, .int (nI mi), .int (nI ml), .ref q2, .ref q3, .ref q4, .ref q5, .ref q6, .ref q7, .ref q8, .ref q9, .int (nI (sp + 1)), .int ((if fa = -1 then (if saF (tdF ft gO (tdF ft gO fD kA 0 (gC 0)) kB 16 (gC 1)) (fun j => (tdF ft gO (tdF ft gO fD kA 0 (gC 0)) kB 16 (gC 1)) (16 + j)) (min (gC 0) (gC 1)) 0 = true then nI sp else -1) else fa))])), (q0, .inl (cI, 401, .inl fs)), (q1, .inl (cJ, 25664, .inr (.inl ft))), (q2, .inl (cI, 4, .inl fl)), (q3, .inl (cI, 8, .inl (fun j => nI (gS j)))), (q4, .inl (cI, 8, .inl (fun j => nI (gX j)))), (q5, .inl (cI, 8, .inl (fun j => nI ((tsF ft gX (tsF ft gX gT kA 0 ml) kB 4 ml) j)))), (q6, .inl (cI, 2, .inl (fun j => nI (gC j)))), (q7, .inl (cI, 32, .inl (fun j => nI (gO j)))), (q8, .inl (cI, 32, .inl (tdF ft gO (tdF ft gO fD kA 0 (gC 0)) kB 16 (gC 1)))), (q9, .inl (cI, 2, .inl (fun j => nI ((va_up (va_up gE 0 (gC 0)) 1 (gC 1)) j))))] := hD
                                  refine lv_aload_n hx hb dX3_step_198 rfl (lv_at hl 1 rfl) ?_
                                  refine va_get (D := D) (ci := 3) (v := .int (nI (sp + 1))) (C := RX3) (T := TX3) (N := 16) hx hb hts hin3 hown hK hP 0 rfl rfl 14 (by decide) kf103 (fun _ h9 => h9) rfl dX3_step_199 ?_
                                  exact wr_i (()) hx hb hr hlocks hP hD hS dX3_step_202 (rfl) (trivial)
                                · refine lv_aload_n hx hb dX3_step_149 rfl (lv_at hl 1 rfl) ?_
                                  refine lv_aload_n hx hb dX3_step_150 rfl (lv_at hl 1 rfl) ?_
                                  refine va_get (D := D) (ci := 3) (v := .ref q8) (C := RX3) (T := TX3) (N := 16) hx hb hts hin3 hown hK hP 0 rfl rfl 12 (by decide) kf35 (fun _ h9 => h9) rfl dX3_step_151 ?_
                                  refine lv_iload_n hx hb dX3_step_154 rfl (lv_at hl 0 rfl) ?_
                                  refine va_iald hx hb hK hP 9 0 rfl rfl (vp_in_nI (by omega) (by omega)) dX3_step_155 ?_
                                  refine tp_i (show (tdF ft gO (tdF ft gO fD kA 0 (gC 0)) kB 16 (gC 1)) (nI i).toNatClampNeg = (tdF ft gO (tdF ft gO fD kA 0 (gC 0)) kB 16 (gC 1)) i from congrArg (tdF ft gO (tdF ft gO fD kA 0 (gC 0)) kB 16 (gC 1)) (nI_clamp (by omega))) ?_
                                  refine lv_aload_n hx hb dX3_step_156 rfl (lv_at hl 1 rfl) ?_
                                  refine va_get (D := D) (ci := 3) (v := .ref q8) (C := RX3) (T := TX3) (N := 16) hx hb hts hin3 hown hK hP 0 rfl rfl 12 (by decide) kf35 (fun _ h9 => h9) rfl dX3_step_157 ?_
                                  refine lv_bipush (v := nI 16) hx hb dX3_step_160 (by decide) ?_
                                  refine lv_iload_n hx hb dX3_step_162 rfl (lv_at hl 0 rfl) ?_
                                  refine lv_iadd hx hb dX3_step_163 ?_
                                  refine tp_i (show (nI 16) + (nI i) = nI (16 + i) from nI_add _ _) ?_
                                  refine va_iald hx hb hK hP 9 0 rfl rfl (vp_in_nI (by omega) (by omega)) dX3_step_164 ?_
                                  refine tp_i (show (tdF ft gO (tdF ft gO fD kA 0 (gC 0)) kB 16 (gC 1)) (nI (16 + i)).toNatClampNeg = (tdF ft gO (tdF ft gO fD kA 0 (gC 0)) kB 16 (gC 1)) (16 + i) from congrArg (tdF ft gO (tdF ft gO fD kA 0 (gC 0)) kB 16 (gC 1)) (nI_clamp (by omega))) ?_
                                  refine lv_icmp_eq (tgt := 175) hx hb dX3_step_165 (by decide) (fun c3 => ?_) (fun c3 => ?_)
                                  · refine lv_aload_n hx hb dX3_step_175 rfl (lv_at hl 1 rfl) ?_
                                    refine va_get (D := D) (ci := 3) (v := .int v) (C := RX3) (T := TX3) (N := 16) hx hb hts hin3 hown hK hP 0 rfl rfl 15 (by decide) kf106 (fun _ h9 => h9) rfl dX3_step_176 ?_
                                    refine va_put (D := D) (ci := 3) (v := .int v) (ty := .int) (C := RX3) (T := TX3) (N := 16) hx hb hts hin3 tyX3 tyX3_ok nmX3 hown hK hP hD hS 0 rfl rfl 15 (by decide) kf106 (fun _ h9 => h9) rfl (by decide +kernel) rfl rfl (Nat.le_of_ble_eq_true rfl) dX3_step_179 (fun H locs hP hD hS => ?_)
                                    have hP : va_P D vwCl [(hm, .inr (3, [.int (nI 0), .int (nI nd), .ref q0, .ref q1, .int (nI mi), .int (nI ml), .ref q2, .ref q3, .ref q4, .ref q5, .ref q6, .ref q7, .ref q8, .ref q9, .int (nI sp), .int v])), (q0, .inl (cI, 401, .inl fs)), (q1, .inl (cJ, 25664, .inr (.inl ft))), (q2, .inl (cI, 4, .inl fl)), (q3, .inl (cI, 8, .inl (fun j => nI (gS j)))), (q4, .inl (cI, 8, .inl (fun j => nI (gX j)))), (q5, .inl (cI, 8, .inl (fun j => nI ((tsF ft gX (tsF ft gX gT kA 0 ml) kB 4 ml) j)))), (q6, .inl (cI, 2, .inl (fun j => nI (gC j)))), (q7, .inl (cI, 32, .inl (fun j => nI (gO j)))), (q8, .inl (cI, 32, .inl (tdF ft gO (tdF ft gO fD kA 0 (gC 0)) kB 16 (gC 1)))), (q9, .inl (cI, 2, .inl (fun j => nI ((va_up (va_up gE 0 (gC 0)) 1 (gC 1)) j))))] H := hP
                                    have hD : va_D A [(hm, .inr (3, [.int (nI 0), .int (nI nd), .ref q0, .ref q1, .int (nI mi), .int (nI ml), .ref q2, .ref q3, .ref q4, .ref q5, .ref q6, .ref q7, .ref q8, .ref q9, .int (nI sp), .int v])), (q0, .inl (cI, 401, .inl fs)), (q1, .inl (cJ, 25664, .inr (.inl ft))), (q2, .inl (cI, 4, .inl fl)), (q3, .inl (cI, 8, .inl (fun j => nI (gS j)))), (q4, .inl (cI, 8, .inl (fun j => nI (gX j)))), (q5, .inl (cI, 8, .inl (fun j => nI ((tsF ft gX (tsF ft gX gT kA 0 ml) kB 4 ml) j)))), (q6, .inl (cI, 2, .inl (fun j => nI (gC j)))), (q7, .inl (cI, 32, .inl (fun j => nI (gO j)))), (q8, .inl (cI, 32, .inl (tdF ft gO (tdF ft gO fD kA 0 (gC 0)) kB 16 (gC 1)))), (q9, .inl (cI, 2, .inl (fun j => nI ((va_up (va_up gE 0 (gC 0)) 1 (gC 1)) j))))] := hD
                                    refine lv_iinc (v := nI (i + 1)) (lv' := [(2, .int (nI (i + 1))), (0, .ref hm), (1, .int inp)]) hx hb dX3_step_182 hl (k := 0) rfl (nI_add i 1) (by decide) rfl (fun ls hl => ?_)
                                    refine lv_goto (tgt := 133) hx hb dX3_step_185 (by decide) ?_
                                    exact ih (i + 1) v (by omega) (by rw [hR, hn9, hn8]; simp only [saF, c3, if_true]) (by omega) _ _ ls hP hD hS (lv_sub hl [0, 1, 2] rfl)
                                  · refine lv_aload_n hx hb dX3_step_168 rfl (lv_at hl 1 rfl) ?_
                                    refine va_get (D := D) (ci := 3) (v := .int (nI sp)) (C := RX3) (T := TX3) (N := 16) hx hb hts hin3 hown hK hP 0 rfl rfl 14 (by decide) kf103 (fun _ h9 => h9) rfl dX3_step_169 ?_
                                    refine lv_goto (tgt := 179) hx hb dX3_step_172 (by decide) ?_
                                    refine va_put (D := D) (ci := 3) (v := .int (nI sp)) (ty := .int) (C := RX3) (T := TX3) (N := 16) hx hb hts hin3 tyX3 tyX3_ok nmX3 hown hK hP hD hS 0 rfl rfl 15 (by decide) kf106 (fun _ h9 => h9) rfl (by decide +kernel) rfl rfl (Nat.le_of_ble_eq_true rfl) dX3_step_179 (fun H locs hP hD hS => ?_)
                                    have hP : va_P D vwCl [(hm, .inr (3, [.int (nI 0), .int (nI nd), .ref q0, .ref q1, .int (nI mi), .int (nI ml), .ref q2, .ref q3, .ref q4, .ref q5, .ref q6, .ref q7, .ref q8, .ref q9, .int (nI sp), .int (nI sp)])), (q0, .inl (cI, 401, .inl fs)), (q1, .inl (cJ, 25664, .inr (.inl ft))), (q2, .inl (cI, 4, .inl fl)), (q3, .inl (cI, 8, .inl (fun j => nI (gS j)))), (q4, .inl (cI, 8, .inl (fun j => nI (gX j)))), (q5, .inl (cI, 8, .inl (fun j => nI ((tsF ft gX (tsF ft gX gT kA 0 ml) kB 4 ml) j)))), (q6, .inl (cI, 2, .inl (fun j => nI (gC j)))), (q7, .inl (cI, 32, .inl (fun j => nI (gO j)))), (q8, .inl (cI, 32, .inl (tdF ft gO (tdF ft gO fD kA 0 (gC 0)) kB 16 (gC 1)))), (q9, .inl (cI, 2, .inl (fun j => nI ((va_up (va_up gE 0 (gC 0)) 1 (gC 1)) j))))] H := hP
                                    have hD : va_D A [(hm, .inr (3, [.int (nI 0), .int (nI nd), .ref q0, .ref q1, .int (nI mi), .int (nI ml), .ref q2, .ref q3, .ref q4, .ref q5, .ref q6, .ref q7, .ref q8, .ref q9, .int (nI sp), .int (nI sp)])), (q0, .inl (cI, 401, .inl fs)), (q1, .inl (cJ, 25664, .inr (.inl ft))), (q2, .inl (cI, 4, .inl fl)), (q3, .inl (cI, 8, .inl (fun j => nI (gS j)))), (q4, .inl (cI, 8, .inl (fun j => nI (gX j)))), (q5, .inl (cI, 8, .inl (fun j => nI ((tsF ft gX (tsF ft gX gT kA 0 ml) kB 4 ml) j)))), (q6, .inl (cI, 2, .inl (fun j => nI (gC j)))), (q7, .inl (cI, 32, .inl (fun j => nI (gO j)))), (q8, .inl (cI, 32, .inl (tdF ft gO (tdF ft gO fD kA 0 (gC 0)) kB 16 (gC 1)))), (q9, .inl (cI, 2, .inl (fun j => nI ((va_up (va_up gE 0 (gC 0)) 1 (gC 1)) j))))] := hD
                                    refine lv_iinc (v := nI (i + 1)) (lv' := [(2, .int (nI (i + 1))), (0, .ref hm), (1, .int inp)]) hx hb dX3_step_182 hl (k := 0) rfl (nI_add i 1) (by decide) rfl (fun ls hl => ?_)
                                    refine lv_goto (tgt := 133) hx hb dX3_step_185 (by decide) ?_
                                    exact ih (i + 1) (nI sp) (by omega) (by rw [hR, if_pos c2, hn9, if_neg (sp_ne hsp)]; simp only [saF, if_neg c3, if_true]) (by omega) _ _ ls hP hD hS (lv_sub hl [0, 1, 2] rfl)
                          exact loopC ((min (gC 0) (gC 1)) - 0 + 1) 0 fa (by omega) (rfl) (by omega) _ _ ls hP hD hS (lv_sub hl [0, 3, 4] rfl)
                        · have c1 : ¬ (ml ≤ i) := fun h => c1 ((nI_leI (by omega) (by omega)).mpr h)
                          have hx9 := hX i (by omega)
                          refine lv_aload_n hx hb dX3_step_92 rfl (lv_at hl 3 rfl) ?_
                          refine va_get (D := D) (ci := 3) (v := .ref q5) (C := RX3) (T := TX3) (N := 16) hx hb hts hin3 hown hK hP 0 rfl rfl 9 (by decide) kf26 (fun _ h9 => h9) rfl dX3_step_93 ?_
                          refine lv_iconst (v := nI 4) hx hb dX3_step_96 (by decide) ?_
                          refine lv_iload_n hx hb dX3_step_97 rfl (lv_at hl 2 rfl) ?_
                          refine lv_imul hx hb dX3_step_98 ?_
                          refine tp_i (show (nI 4) * (nI 1) = nI 4 from by decide) ?_
                          refine lv_iload hx hb dX3_step_99 (lv_at hl 0 rfl) ?_
                          refine lv_iadd hx hb dX3_step_101 ?_
                          refine tp_i (show (nI 4) + (nI i) = nI (4 + i) from nI_add _ _) ?_
                          refine lv_aload_n hx hb dX3_step_102 rfl (lv_at hl 3 rfl) ?_
                          refine lv_aload_n hx hb dX3_step_103 rfl (lv_at hl 3 rfl) ?_
                          refine va_get (D := D) (ci := 3) (v := .ref q4) (C := RX3) (T := TX3) (N := 16) hx hb hts hin3 hown hK hP 0 rfl rfl 8 (by decide) kf23 (fun _ h9 => h9) rfl dX3_step_104 ?_
                          refine lv_iconst (v := nI 4) hx hb dX3_step_107 (by decide) ?_
                          refine lv_iload_n hx hb dX3_step_108 rfl (lv_at hl 2 rfl) ?_
                          refine lv_imul hx hb dX3_step_109 ?_
                          refine tp_i (show (nI 4) * (nI 1) = nI 4 from by decide) ?_
                          refine lv_iload hx hb dX3_step_110 (lv_at hl 0 rfl) ?_
                          refine lv_iadd hx hb dX3_step_112 ?_
                          refine tp_i (show (nI 4) + (nI i) = nI (4 + i) from nI_add _ _) ?_
                          refine va_iald hx hb hK hP 5 0 rfl rfl (vp_in_nI (by omega) (by omega)) dX3_step_113 ?_
                          refine tp_i (show (fun j => nI (gX j)) (nI (4 + i)).toNatClampNeg = nI (gX (4 + i)) from congrArg (fun j => nI (gX j)) (nI_clamp (by omega))) ?_
                          refine lv_iload_n hx hb dX3_step_114 rfl (lv_at hl 1 rfl) ?_
                          refine rd_V (As := [.int (nI (gX (4 + i))), .int (nI kB)]) (rest := [.int (nI (4 + i)), .ref q5]) ⟨hx, hb, hml, hown, hts⟩ (c_X3_bit l D cI cJ hm q0 q1 q2 q3 q4 q5 q6 q7 q8 q9 (nI 0) nd fs ft mi ml fl gS gX (tsF ft gX (tsF ft gX gT kA 0 ml) kB 4 i) gC gO (tdF ft gO (tdF ft gO fD kA 0 (gC 0)) kB 16 (gC 1)) (va_up (va_up gE 0 (gC 0)) 1 (gC 1)) sp fa (gX (4 + i)) kB (by omega) hkB2) (cwV 2 hts gX3_step_X3_bit rfl rfl rfl (by decide +kernel) ⟨Nat.le_of_ble_eq_true rfl, Nat.le_of_ble_eq_true rfl⟩) (rd_pv (ci := 3) (q0 := 0) hK hP rfl rfl) rfl hl.1 rfl (Nat.le_of_ble_eq_true rfl) dX3_step_115 ⟨by show _ ≤ _; simp only [headSpec]; omega, by show _ ≤ _; simp only [headSpec]; omega⟩ ?_
                          refine tp_i (show zI (bt ft (gX (4 + i)) kB) = nI ((bt ft (gX (4 + i)) kB).toNat) from zI_nat _) ?_
                          refine va_iast hx hb hK hP hD hS 6 0 rfl rfl (vp_in_nI (by omega) (by omega)) dX3_step_118 (fun H locs hP hD hS => ?_)
                          have hP : va_P D vwCl [(hm, .inr (3, [.int (nI 0), .int (nI nd), .ref q0, .ref q1, .int (nI mi), .int (nI ml), .ref q2, .ref q3, .ref q4, .ref q5, .ref q6, .ref q7, .ref q8, .ref q9, .int (nI sp), .int fa])), (q0, .inl (cI, 401, .inl fs)), (q1, .inl (cJ, 25664, .inr (.inl ft))), (q2, .inl (cI, 4, .inl fl)), (q3, .inl (cI, 8, .inl (fun j => nI (gS j)))), (q4, .inl (cI, 8, .inl (fun j => nI (gX j)))), (q5, .inl (cI, 8, .inl (upd (fun j => nI ((tsF ft gX (tsF ft gX gT kA 0 ml) kB 4 i) j)) (nI (4 + i)).toNatClampNeg (nI ((bt ft (gX (4 + i)) kB).toNat))))), (q6, .inl (cI, 2, .inl (fun j => nI (gC j)))), (q7, .inl (cI, 32, .inl (fun j => nI (gO j)))), (q8, .inl (cI, 32, .inl (tdF ft gO (tdF ft gO fD kA 0 (gC 0)) kB 16 (gC 1)))), (q9, .inl (cI, 2, .inl (fun j => nI ((va_up (va_up gE 0 (gC 0)) 1 (gC 1)) j))))] H := hP
                          have hD : va_D A [(hm, .inr (3, [.int (nI 0), .int (nI nd), .ref q0, .ref q1, .int (nI mi), .int (nI ml), .ref q2, .ref q3, .ref q4, .ref q5, .ref q6, .ref q7, .ref q8, .ref q9, .int (nI sp), .int fa])), (q0, .inl (cI, 401, .inl fs)), (q1, .inl (cJ, 25664, .inr (.inl ft))), (q2, .inl (cI, 4, .inl fl)), (q3, .inl (cI, 8, .inl (fun j => nI (gS j)))), (q4, .inl (cI, 8, .inl (fun j => nI (gX j)))), (q5, .inl (cI, 8, .inl (upd (fun j => nI ((tsF ft gX (tsF ft gX gT kA 0 ml) kB 4 i) j)) (nI (4 + i)).toNatClampNeg (nI ((bt ft (gX (4 + i)) kB).toNat))))), (q6, .inl (cI, 2, .inl (fun j => nI (gC j)))), (q7, .inl (cI, 32, .inl (fun j => nI (gO j)))), (q8, .inl (cI, 32, .inl (tdF ft gO (tdF ft gO fD kA 0 (gC 0)) kB 16 (gC 1)))), (q9, .inl (cI, 2, .inl (fun j => nI ((va_up (va_up gE 0 (gC 0)) 1 (gC 1)) j))))] := hD
                          rw [show upd (fun j => nI ((tsF ft gX (tsF ft gX gT kA 0 ml) kB 4 i) j)) (nI (4 + i)).toNatClampNeg (nI ((bt ft (gX (4 + i)) kB).toNat)) = fun j => nI ((tsF ft gX (tsF ft gX gT kA 0 ml) kB 4 (i + 1)) j) from tsF_up (by omega) (by omega)] at hP hD
                          refine lv_iinc (v := nI (i + 1)) (lv' := [(4, .int (nI (i + 1))), (3, .int (nI kB)), (2, .int (nI 1)), (0, .ref hm), (1, .int inp)]) hx hb dX3_step_119 hl (k := 0) rfl (nI_add i 1) (by decide) rfl (fun ls hl => ?_)
                          refine lv_goto (tgt := 83) hx hb dX3_step_122 (by decide) ?_
                          exact ih (i + 1) (by omega) (by omega) _ _ ls hP hD hS (lv_sub hl [0, 1, 2, 3, 4] rfl)
                    exact loopT1 (ml - 0 + 1) 0 (by omega) (by omega) _ _ ls (by rw [tsF_0]; exact hP) (by rw [tsF_0]; exact hD) hS (lv_sub hl [0, 1, 2, 3, 4] rfl)
                  · have c1 : ¬ (gC 1 ≤ i) := fun h => c1 ((nI_leI (by omega) (by omega)).mpr h)
                    have ho9 := hO1 i (by omega)
                    refine lv_aload_n hx hb dX3_step_33 rfl (lv_at hl 3 rfl) ?_
                    refine va_get (D := D) (ci := 3) (v := .ref q8) (C := RX3) (T := TX3) (N := 16) hx hb hts hin3 hown hK hP 0 rfl rfl 12 (by decide) kf35 (fun _ h9 => h9) rfl dX3_step_34 ?_
                    refine lv_bipush (v := nI 16) hx hb dX3_step_37 (by decide) ?_
                    refine lv_iload_n hx hb dX3_step_39 rfl (lv_at hl 2 rfl) ?_
                    refine lv_imul hx hb dX3_step_40 ?_
                    refine tp_i (show (nI 16) * (nI 1) = nI 16 from by decide) ?_
                    refine lv_iload hx hb dX3_step_41 (lv_at hl 0 rfl) ?_
                    refine lv_iadd hx hb dX3_step_43 ?_
                    refine tp_i (show (nI 16) + (nI i) = nI (16 + i) from nI_add _ _) ?_
                    refine lv_aload_n hx hb dX3_step_44 rfl (lv_at hl 3 rfl) ?_
                    refine lv_aload_n hx hb dX3_step_45 rfl (lv_at hl 3 rfl) ?_
                    refine va_get (D := D) (ci := 3) (v := .ref q7) (C := RX3) (T := TX3) (N := 16) hx hb hts hin3 hown hK hP 0 rfl rfl 11 (by decide) kf32 (fun _ h9 => h9) rfl dX3_step_46 ?_
                    refine lv_bipush (v := nI 16) hx hb dX3_step_49 (by decide) ?_
                    refine lv_iload_n hx hb dX3_step_51 rfl (lv_at hl 2 rfl) ?_
                    refine lv_imul hx hb dX3_step_52 ?_
                    refine tp_i (show (nI 16) * (nI 1) = nI 16 from by decide) ?_
                    refine lv_iload hx hb dX3_step_53 (lv_at hl 0 rfl) ?_
                    refine lv_iadd hx hb dX3_step_55 ?_
                    refine tp_i (show (nI 16) + (nI i) = nI (16 + i) from nI_add _ _) ?_
                    refine va_iald hx hb hK hP 8 0 rfl rfl (vp_in_nI (by omega) (by omega)) dX3_step_56 ?_
                    refine tp_i (show (fun j => nI (gO j)) (nI (16 + i)).toNatClampNeg = nI (gO (16 + i)) from congrArg (fun j => nI (gO j)) (nI_clamp (by omega))) ?_
                    refine lv_iload_n hx hb dX3_step_57 rfl (lv_at hl 1 rfl) ?_
                    refine rd_V (As := [.int (nI (gO (16 + i))), .int (nI kB)]) (rest := [.int (nI (16 + i)), .ref q8]) ⟨hx, hb, hml, hown, hts⟩ (c_X3_bit l D cI cJ hm q0 q1 q2 q3 q4 q5 q6 q7 q8 q9 (nI 0) nd fs ft mi ml fl gS gX (tsF ft gX gT kA 0 ml) gC gO (tdF ft gO (tdF ft gO fD kA 0 (gC 0)) kB 16 i) (va_up gE 0 (gC 0)) sp fa (gO (16 + i)) kB (by omega) hkB2) (cwV 2 hts gX3_step_X3_bit rfl rfl rfl (by decide +kernel) ⟨Nat.le_of_ble_eq_true rfl, Nat.le_of_ble_eq_true rfl⟩) (rd_pv (ci := 3) (q0 := 0) hK hP rfl rfl) rfl hl.1 rfl (Nat.le_of_ble_eq_true rfl) dX3_step_58 ⟨by show _ ≤ _; simp only [headSpec]; omega, by show _ ≤ _; simp only [headSpec]; omega⟩ ?_
                    refine va_iast hx hb hK hP hD hS 9 0 rfl rfl (vp_in_nI (by omega) (by omega)) dX3_step_61 (fun H locs hP hD hS => ?_)
                    have hP : va_P D vwCl [(hm, .inr (3, [.int (nI 0), .int (nI nd), .ref q0, .ref q1, .int (nI mi), .int (nI ml), .ref q2, .ref q3, .ref q4, .ref q5, .ref q6, .ref q7, .ref q8, .ref q9, .int (nI sp), .int fa])), (q0, .inl (cI, 401, .inl fs)), (q1, .inl (cJ, 25664, .inr (.inl ft))), (q2, .inl (cI, 4, .inl fl)), (q3, .inl (cI, 8, .inl (fun j => nI (gS j)))), (q4, .inl (cI, 8, .inl (fun j => nI (gX j)))), (q5, .inl (cI, 8, .inl (fun j => nI ((tsF ft gX gT kA 0 ml) j)))), (q6, .inl (cI, 2, .inl (fun j => nI (gC j)))), (q7, .inl (cI, 32, .inl (fun j => nI (gO j)))), (q8, .inl (cI, 32, .inl (upd (tdF ft gO (tdF ft gO fD kA 0 (gC 0)) kB 16 i) (nI (16 + i)).toNatClampNeg (zI (bt ft (gO (16 + i)) kB))))), (q9, .inl (cI, 2, .inl (fun j => nI ((va_up gE 0 (gC 0)) j))))] H := hP
                    have hD : va_D A [(hm, .inr (3, [.int (nI 0), .int (nI nd), .ref q0, .ref q1, .int (nI mi), .int (nI ml), .ref q2, .ref q3, .ref q4, .ref q5, .ref q6, .ref q7, .ref q8, .ref q9, .int (nI sp), .int fa])), (q0, .inl (cI, 401, .inl fs)), (q1, .inl (cJ, 25664, .inr (.inl ft))), (q2, .inl (cI, 4, .inl fl)), (q3, .inl (cI, 8, .inl (fun j => nI (gS j)))), (q4, .inl (cI, 8, .inl (fun j => nI (gX j)))), (q5, .inl (cI, 8, .inl (fun j => nI ((tsF ft gX gT kA 0 ml) j)))), (q6, .inl (cI, 2, .inl (fun j => nI (gC j)))), (q7, .inl (cI, 32, .inl (fun j => nI (gO j)))), (q8, .inl (cI, 32, .inl (upd (tdF ft gO (tdF ft gO fD kA 0 (gC 0)) kB 16 i) (nI (16 + i)).toNatClampNeg (zI (bt ft (gO (16 + i)) kB))))), (q9, .inl (cI, 2, .inl (fun j => nI ((va_up gE 0 (gC 0)) j))))] := hD
                    rw [show upd (tdF ft gO (tdF ft gO fD kA 0 (gC 0)) kB 16 i) (nI (16 + i)).toNatClampNeg (zI (bt ft (gO (16 + i)) kB)) = tdF ft gO (tdF ft gO fD kA 0 (gC 0)) kB 16 (i + 1) from tdF_up (by omega) (by omega)] at hP hD
                    refine lv_iinc (v := nI (i + 1)) (lv' := [(4, .int (nI (i + 1))), (3, .int (nI kB)), (2, .int (nI 1)), (0, .ref hm), (1, .int inp)]) hx hb dX3_step_62 hl (k := 0) rfl (nI_add i 1) (by decide) rfl (fun ls hl => ?_)
                    refine lv_goto (tgt := 22) hx hb dX3_step_65 (by decide) ?_
                    exact ih (i + 1) (by omega) (by omega) _ _ ls hP hD hS (lv_sub hl [0, 1, 2, 3, 4] rfl)
              exact loopO1 (gC 1 - 0 + 1) 0 (by omega) (by omega) _ _ ls (by rw [tdF_0]; exact hP) (by rw [tdF_0]; exact hD) hS (lv_sub hl [0, 1, 2, 3, 4] rfl)
            · have c1 : ¬ (ml ≤ i) := fun h => c1 ((nI_leI (by omega) (by omega)).mpr h)
              have hx9 := hX i (by omega)
              refine lv_aload_n hx hb dX3_step_92 rfl (lv_at hl 3 rfl) ?_
              refine va_get (D := D) (ci := 3) (v := .ref q5) (C := RX3) (T := TX3) (N := 16) hx hb hts hin3 hown hK hP 0 rfl rfl 9 (by decide) kf26 (fun _ h9 => h9) rfl dX3_step_93 ?_
              refine lv_iconst (v := nI 4) hx hb dX3_step_96 (by decide) ?_
              refine lv_iload_n hx hb dX3_step_97 rfl (lv_at hl 2 rfl) ?_
              refine lv_imul hx hb dX3_step_98 ?_
              refine tp_i (show (nI 4) * (nI 0) = nI 0 from by decide) ?_
              refine lv_iload hx hb dX3_step_99 (lv_at hl 0 rfl) ?_
              refine lv_iadd hx hb dX3_step_101 ?_
              refine tp_i (show (nI 0) + (nI i) = nI i from by rw [nI_add, Nat.zero_add]) ?_
              refine lv_aload_n hx hb dX3_step_102 rfl (lv_at hl 3 rfl) ?_
              refine lv_aload_n hx hb dX3_step_103 rfl (lv_at hl 3 rfl) ?_
              refine va_get (D := D) (ci := 3) (v := .ref q4) (C := RX3) (T := TX3) (N := 16) hx hb hts hin3 hown hK hP 0 rfl rfl 8 (by decide) kf23 (fun _ h9 => h9) rfl dX3_step_104 ?_
              refine lv_iconst (v := nI 4) hx hb dX3_step_107 (by decide) ?_
              refine lv_iload_n hx hb dX3_step_108 rfl (lv_at hl 2 rfl) ?_
              refine lv_imul hx hb dX3_step_109 ?_
              refine tp_i (show (nI 4) * (nI 0) = nI 0 from by decide) ?_
              refine lv_iload hx hb dX3_step_110 (lv_at hl 0 rfl) ?_
              refine lv_iadd hx hb dX3_step_112 ?_
              refine tp_i (show (nI 0) + (nI i) = nI i from by rw [nI_add, Nat.zero_add]) ?_
              refine va_iald hx hb hK hP 5 0 rfl rfl (vp_in_nI (by omega) (by omega)) dX3_step_113 ?_
              refine tp_i (show (fun j => nI (gX j)) (nI i).toNatClampNeg = nI (gX i) from congrArg (fun j => nI (gX j)) (nI_clamp (by omega))) ?_
              refine lv_iload_n hx hb dX3_step_114 rfl (lv_at hl 1 rfl) ?_
              refine rd_V (As := [.int (nI (gX i)), .int (nI kA)]) (rest := [.int (nI i), .ref q5]) ⟨hx, hb, hml, hown, hts⟩ (c_X3_bit l D cI cJ hm q0 q1 q2 q3 q4 q5 q6 q7 q8 q9 (nI 0) nd fs ft mi ml fl gS gX (tsF ft gX gT kA 0 i) gC gO (tdF ft gO fD kA 0 (gC 0)) (va_up gE 0 (gC 0)) sp fa (gX i) kA (by omega) hkA2) (cwV 2 hts gX3_step_X3_bit rfl rfl rfl (by decide +kernel) ⟨Nat.le_of_ble_eq_true rfl, Nat.le_of_ble_eq_true rfl⟩) (rd_pv (ci := 3) (q0 := 0) hK hP rfl rfl) rfl hl.1 rfl (Nat.le_of_ble_eq_true rfl) dX3_step_115 ⟨by show _ ≤ _; simp only [headSpec]; omega, by show _ ≤ _; simp only [headSpec]; omega⟩ ?_
              refine tp_i (show zI (bt ft (gX i) kA) = nI ((bt ft (gX i) kA).toNat) from zI_nat _) ?_
              refine va_iast hx hb hK hP hD hS 6 0 rfl rfl (vp_in_nI (by omega) (by omega)) dX3_step_118 (fun H locs hP hD hS => ?_)
              have hP : va_P D vwCl [(hm, .inr (3, [.int (nI 0), .int (nI nd), .ref q0, .ref q1, .int (nI mi), .int (nI ml), .ref q2, .ref q3, .ref q4, .ref q5, .ref q6, .ref q7, .ref q8, .ref q9, .int (nI sp), .int fa])), (q0, .inl (cI, 401, .inl fs)), (q1, .inl (cJ, 25664, .inr (.inl ft))), (q2, .inl (cI, 4, .inl fl)), (q3, .inl (cI, 8, .inl (fun j => nI (gS j)))), (q4, .inl (cI, 8, .inl (fun j => nI (gX j)))), (q5, .inl (cI, 8, .inl (upd (fun j => nI ((tsF ft gX gT kA 0 i) j)) (nI i).toNatClampNeg (nI ((bt ft (gX i) kA).toNat))))), (q6, .inl (cI, 2, .inl (fun j => nI (gC j)))), (q7, .inl (cI, 32, .inl (fun j => nI (gO j)))), (q8, .inl (cI, 32, .inl (tdF ft gO fD kA 0 (gC 0)))), (q9, .inl (cI, 2, .inl (fun j => nI ((va_up gE 0 (gC 0)) j))))] H := hP
              have hD : va_D A [(hm, .inr (3, [.int (nI 0), .int (nI nd), .ref q0, .ref q1, .int (nI mi), .int (nI ml), .ref q2, .ref q3, .ref q4, .ref q5, .ref q6, .ref q7, .ref q8, .ref q9, .int (nI sp), .int fa])), (q0, .inl (cI, 401, .inl fs)), (q1, .inl (cJ, 25664, .inr (.inl ft))), (q2, .inl (cI, 4, .inl fl)), (q3, .inl (cI, 8, .inl (fun j => nI (gS j)))), (q4, .inl (cI, 8, .inl (fun j => nI (gX j)))), (q5, .inl (cI, 8, .inl (upd (fun j => nI ((tsF ft gX gT kA 0 i) j)) (nI i).toNatClampNeg (nI ((bt ft (gX i) kA).toNat))))), (q6, .inl (cI, 2, .inl (fun j => nI (gC j)))), (q7, .inl (cI, 32, .inl (fun j => nI (gO j)))), (q8, .inl (cI, 32, .inl (tdF ft gO fD kA 0 (gC 0)))), (q9, .inl (cI, 2, .inl (fun j => nI ((va_up gE 0 (gC 0)) j))))] := hD
              rw [show upd (fun j => nI ((tsF ft gX gT kA 0 i) j)) (nI i).toNatClampNeg (nI ((bt ft (gX i) kA).toNat)) = fun j => nI ((tsF ft gX gT kA 0 (i + 1)) j) from tsF_up (by omega) (by omega)] at hP hD
              refine lv_iinc (v := nI (i + 1)) (lv' := [(4, .int (nI (i + 1))), (3, .int (nI kA)), (2, .int (nI 0)), (0, .ref hm), (1, .int inp)]) hx hb dX3_step_119 hl (k := 0) rfl (nI_add i 1) (by decide) rfl (fun ls hl => ?_)
              refine lv_goto (tgt := 83) hx hb dX3_step_122 (by decide) ?_
              exact ih (i + 1) (by omega) (by omega) _ _ ls hP hD hS (lv_sub hl [0, 1, 2, 3, 4] rfl)
        exact loopT0 (ml - 0 + 1) 0 (by omega) (by omega) _ _ ls (by rw [tsF_0]; exact hP) (by rw [tsF_0]; exact hD) hS (lv_sub hl [0, 1, 2, 3, 4] rfl)
      · have c1 : ¬ (gC 0 ≤ i) := fun h => c1 ((nI_leI (by omega) (by omega)).mpr h)
        have ho9 := hO0 i (by omega)
        refine lv_aload_n hx hb dX3_step_33 rfl (lv_at hl 3 rfl) ?_
        refine va_get (D := D) (ci := 3) (v := .ref q8) (C := RX3) (T := TX3) (N := 16) hx hb hts hin3 hown hK hP 0 rfl rfl 12 (by decide) kf35 (fun _ h9 => h9) rfl dX3_step_34 ?_
        refine lv_bipush (v := nI 16) hx hb dX3_step_37 (by decide) ?_
        refine lv_iload_n hx hb dX3_step_39 rfl (lv_at hl 2 rfl) ?_
        refine lv_imul hx hb dX3_step_40 ?_
        refine tp_i (show (nI 16) * (nI 0) = nI 0 from by decide) ?_
        refine lv_iload hx hb dX3_step_41 (lv_at hl 0 rfl) ?_
        refine lv_iadd hx hb dX3_step_43 ?_
        refine tp_i (show (nI 0) + (nI i) = nI i from by rw [nI_add, Nat.zero_add]) ?_
        refine lv_aload_n hx hb dX3_step_44 rfl (lv_at hl 3 rfl) ?_
        refine lv_aload_n hx hb dX3_step_45 rfl (lv_at hl 3 rfl) ?_
        refine va_get (D := D) (ci := 3) (v := .ref q7) (C := RX3) (T := TX3) (N := 16) hx hb hts hin3 hown hK hP 0 rfl rfl 11 (by decide) kf32 (fun _ h9 => h9) rfl dX3_step_46 ?_
        refine lv_bipush (v := nI 16) hx hb dX3_step_49 (by decide) ?_
        refine lv_iload_n hx hb dX3_step_51 rfl (lv_at hl 2 rfl) ?_
        refine lv_imul hx hb dX3_step_52 ?_
        refine tp_i (show (nI 16) * (nI 0) = nI 0 from by decide) ?_
        refine lv_iload hx hb dX3_step_53 (lv_at hl 0 rfl) ?_
        refine lv_iadd hx hb dX3_step_55 ?_
        refine tp_i (show (nI 0) + (nI i) = nI i from by rw [nI_add, Nat.zero_add]) ?_
        refine va_iald hx hb hK hP 8 0 rfl rfl (vp_in_nI (by omega) (by omega)) dX3_step_56 ?_
        refine tp_i (show (fun j => nI (gO j)) (nI i).toNatClampNeg = nI (gO i) from congrArg (fun j => nI (gO j)) (nI_clamp (by omega))) ?_
        refine lv_iload_n hx hb dX3_step_57 rfl (lv_at hl 1 rfl) ?_
        refine rd_V (As := [.int (nI (gO i)), .int (nI kA)]) (rest := [.int (nI i), .ref q8]) ⟨hx, hb, hml, hown, hts⟩ (c_X3_bit l D cI cJ hm q0 q1 q2 q3 q4 q5 q6 q7 q8 q9 (nI 0) nd fs ft mi ml fl gS gX gT gC gO (tdF ft gO fD kA 0 i) gE sp fa (gO i) kA (by omega) hkA2) (cwV 2 hts gX3_step_X3_bit rfl rfl rfl (by decide +kernel) ⟨Nat.le_of_ble_eq_true rfl, Nat.le_of_ble_eq_true rfl⟩) (rd_pv (ci := 3) (q0 := 0) hK hP rfl rfl) rfl hl.1 rfl (Nat.le_of_ble_eq_true rfl) dX3_step_58 ⟨by show _ ≤ _; simp only [headSpec]; omega, by show _ ≤ _; simp only [headSpec]; omega⟩ ?_
        refine va_iast hx hb hK hP hD hS 9 0 rfl rfl (vp_in_nI (by omega) (by omega)) dX3_step_61 (fun H locs hP hD hS => ?_)
        have hP : va_P D vwCl [(hm, .inr (3, [.int (nI 0), .int (nI nd), .ref q0, .ref q1, .int (nI mi), .int (nI ml), .ref q2, .ref q3, .ref q4, .ref q5, .ref q6, .ref q7, .ref q8, .ref q9, .int (nI sp), .int fa])), (q0, .inl (cI, 401, .inl fs)), (q1, .inl (cJ, 25664, .inr (.inl ft))), (q2, .inl (cI, 4, .inl fl)), (q3, .inl (cI, 8, .inl (fun j => nI (gS j)))), (q4, .inl (cI, 8, .inl (fun j => nI (gX j)))), (q5, .inl (cI, 8, .inl (fun j => nI (gT j)))), (q6, .inl (cI, 2, .inl (fun j => nI (gC j)))), (q7, .inl (cI, 32, .inl (fun j => nI (gO j)))), (q8, .inl (cI, 32, .inl (upd (tdF ft gO fD kA 0 i) (nI i).toNatClampNeg (zI (bt ft (gO i) kA))))), (q9, .inl (cI, 2, .inl (fun j => nI (gE j))))] H := hP
        have hD : va_D A [(hm, .inr (3, [.int (nI 0), .int (nI nd), .ref q0, .ref q1, .int (nI mi), .int (nI ml), .ref q2, .ref q3, .ref q4, .ref q5, .ref q6, .ref q7, .ref q8, .ref q9, .int (nI sp), .int fa])), (q0, .inl (cI, 401, .inl fs)), (q1, .inl (cJ, 25664, .inr (.inl ft))), (q2, .inl (cI, 4, .inl fl)), (q3, .inl (cI, 8, .inl (fun j => nI (gS j)))), (q4, .inl (cI, 8, .inl (fun j => nI (gX j)))), (q5, .inl (cI, 8, .inl (fun j => nI (gT j)))), (q6, .inl (cI, 2, .inl (fun j => nI (gC j)))), (q7, .inl (cI, 32, .inl (fun j => nI (gO j)))), (q8, .inl (cI, 32, .inl (upd (tdF ft gO fD kA 0 i) (nI i).toNatClampNeg (zI (bt ft (gO i) kA))))), (q9, .inl (cI, 2, .inl (fun j => nI (gE j))))] := hD
        rw [show upd (tdF ft gO fD kA 0 i) (nI i).toNatClampNeg (zI (bt ft (gO i) kA)) = tdF ft gO fD kA 0 (i + 1) from tdF_up (by omega) (by omega)] at hP hD
        refine lv_iinc (v := nI (i + 1)) (lv' := [(4, .int (nI (i + 1))), (3, .int (nI kA)), (2, .int (nI 0)), (0, .ref hm), (1, .int inp)]) hx hb dX3_step_62 hl (k := 0) rfl (nI_add i 1) (by decide) rfl (fun ls hl => ?_)
        refine lv_goto (tgt := 22) hx hb dX3_step_65 (by decide) ?_
        exact ih (i + 1) (by omega) (by omega) _ _ ls hP hD hS (lv_sub hl [0, 1, 2, 3, 4] rfl)
  exact loopO0 (gC 0 - 0 + 1) 0 (by omega) (by omega) _ _ ls (by rw [tdF_0]; exact hP) (by rw [tdF_0]; exact hD) hS (lv_sub hl [0, 1, 2, 3, 4] rfl)
end MW5
