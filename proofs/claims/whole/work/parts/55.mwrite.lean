/-! The model: and, output, next. -/
section MW2
variable (l : Launch) (D : va_G) (cI cJ : ClassId) (tp : Nat) (hm q0 q1 q2 q3 q4 q5 q6 q7 q8 q9 : Nat) (th : Int32) (nd : Nat) (fs : Nat → Int32) (ft : Nat → Int64) (mi ml : Nat) (fl : Nat → Int32) (gS gX gT gC gO : Nat → Nat) (fD : Nat → Int32) (gE : Nat → Nat) (sp : Nat) (fa : Int32)
set_option maxHeartbeats 4000000 in
set_option maxRecDepth 100000 in
/-- and -/
theorem w_X3_and (sd : Int32) (la lb : Nat) (hs : sd = 0 ∨ sd = 1) (h1 : la < 2 * nd) (h2 : lb < 2 * nd) (hnd : nd < 400) (hoa : ¬ (¬ fs (la / 2) = -1 ∧ ¬ fs (la / 2) = sd)) (hob : ¬ (¬ fs (lb / 2) = -1 ∧ ¬ fs (lb / 2) = sd)) (sz : Nat) : Met l yX3_and wsX3_and { frames := 1, cells := 0, slots := 0, locals := 22 } (wr_P D [(cI, .int), (cJ, .long)] (mW hm q0 q1 q2 q3 q4 q5 q6 q7 q8 q9 cI cJ th nd fs ft mi ml fl gS gX gT gC gO fD gE sp fa) sz tp [.ref hm, .int sd, .int (nI la), .int (nI lb)]) (wx (Su := Unit) D [(cI, .int), (cJ, .long)] (va_A (mW hm q0 q1 q2 q3 q4 q5 q6 q7 q8 q9 cI cJ th nd fs ft mi ml fl gS gX gT gC gO fD gE sp fa) sz) (fun _ => some (.int (nI (2 * nd)))) (fun _ => True) (fun _ => mW hm q0 q1 q2 q3 q4 q5 q6 q7 q8 q9 cI cJ (nI 0) (nd + 1) (upd fs nd sd) (rwF ft nd (fun w => wd ft la w &&& wd ft lb w) 64) mi ml fl gS gX gT gC gO fD gE sp fa)) 0 0 (va_A (mW hm q0 q1 q2 q3 q4 q5 q6 q7 q8 q9 cI cJ th nd fs ft mi ml fl gS gX gT gC gO fD gE sp fa) sz) := by
  refine Met.ofW (cc := cX3_and) (maxL := 10) (ret := (some .int)) (by decide) rfl ?_
  intro p e s m args below meth c s₁ B hml hv
  obtain ⟨rfl, hsz, ⟨hP, hK, hD0⟩, hE⟩ := hv
  have hx := B.exec
  have hb := B.bytes
  have hr := B.returns
  have hts := atoms_spec (ws := wsX3_and) B.pre
  have hown : s.vm.findClass RX3 = some m.cls := findClass_of_methodNamed B.named
  have hlocks := B.notSynchronized
  subst hsz
  have hD := hD0.self (sz := s.heap.size)
  generalize hAe : va_A (mW hm q0 q1 q2 q3 q4 q5 q6 q7 q8 q9 cI cJ th nd fs ft mi ml fl gS gX gT gC gO fD gE sp fa) s.heap.size = A at hD hE ⊢
  have hA : ∀ q : Nat, s.heap.size ≤ q → A q := fun q h => by rw [← hAe]; exact Or.inr h
  have hS : va_S A s.heap s.heap [] := va_S.rf
  have hP : va_P D vwCl [(hm, .inr (3, [.int th, .int (nI nd), .ref q0, .ref q1, .int (nI mi), .int (nI ml), .ref q2, .ref q3, .ref q4, .ref q5, .ref q6, .ref q7, .ref q8, .ref q9, .int (nI sp), .int fa])), (q0, .inl (cI, 401, .inl fs)), (q1, .inl (cJ, 25664, .inr (.inl ft))), (q2, .inl (cI, 4, .inl fl)), (q3, .inl (cI, 8, .inl (fun j => nI (gS j)))), (q4, .inl (cI, 8, .inl (fun j => nI (gX j)))), (q5, .inl (cI, 8, .inl (fun j => nI (gT j)))), (q6, .inl (cI, 2, .inl (fun j => nI (gC j)))), (q7, .inl (cI, 32, .inl (fun j => nI (gO j)))), (q8, .inl (cI, 32, .inl fD)), (q9, .inl (cI, 2, .inl (fun j => nI (gE j))))] s.heap := hP
  have hD : va_D A [(hm, .inr (3, [.int th, .int (nI nd), .ref q0, .ref q1, .int (nI mi), .int (nI ml), .ref q2, .ref q3, .ref q4, .ref q5, .ref q6, .ref q7, .ref q8, .ref q9, .int (nI sp), .int fa])), (q0, .inl (cI, 401, .inl fs)), (q1, .inl (cJ, 25664, .inr (.inl ft))), (q2, .inl (cI, 4, .inl fl)), (q3, .inl (cI, 8, .inl (fun j => nI (gS j)))), (q4, .inl (cI, 8, .inl (fun j => nI (gX j)))), (q5, .inl (cI, 8, .inl (fun j => nI (gT j)))), (q6, .inl (cI, 2, .inl (fun j => nI (gC j)))), (q7, .inl (cI, 32, .inl (fun j => nI (gO j)))), (q8, .inl (cI, 32, .inl fD)), (q9, .inl (cI, 2, .inl (fun j => nI (gE j))))] := hD
  have hl := lv_entry ([.ref hm, .int sd, .int (nI la), .int (nI lb)]) (n := 10) (Nat.le_of_ble_eq_true rfl)
  rw [lg_entry_eq]
  generalize (lg_sl ([.ref hm, .int sd, .int (nI la), .int (nI lb)]) ++ List.replicate (10 - (lg_sl ([.ref hm, .int sd, .int (nI la), .int (nI lb)])).length) Slot.unset).toArray = ls at hl ⊢
  have hl : lv_has ls 10 [(0, .ref hm), (1, .int sd), (2, .int (nI la)), (3, .int (nI lb))] := hl
  have hin3 : ∀ w ∈ wsX30, w ∈ wsX3_and := by decide +kernel
  have kf48 := hts (.fieldLink RX3 48 "SweepEqualModel" "nodes" "I") (by decide +kernel)
  have kf44 := hts (.fieldLink RX3 44 "SweepEqualModel" "thrown" "I") (by decide +kernel)
  have kf13 := hts (.fieldLink RX3 13 "SweepEqualModel" "tables" "[J") (by decide +kernel)
  have kf7 := hts (.fieldLink RX3 7 "SweepEqualModel" "sides" "[I") (by decide +kernel)
  refine lv_iload_n hx hb dX3_and_0 rfl (lv_at hl 1 rfl) ?_
  refine rd_S (As := [.int sd]) (rest := []) ⟨hx, hb, hml, hown, hts⟩ (c_X3_isSide l sd) (va_cwS 1 hts gX3_and_X3_isSide rfl rfl rfl (by decide +kernel) ⟨Nat.le_of_ble_eq_true rfl, Nat.le_of_ble_eq_true rfl⟩) preEq rfl hl.1 rfl (Nat.le_of_ble_eq_true rfl) dX3_and_1 ⟨by show _ ≤ _; simp only [headSpec]; omega, by show _ ≤ _; simp only [headSpec]; omega⟩ ?_
  refine tp_i (show zI (decide (sd = 0 ∨ sd = 1)) = nI 1 from zd_1 hs) ?_
  refine lv_if_eq (tgt := 27) hx hb dX3_and_4 (by decide) (fun hc => absurd hc (by decide)) (fun _ => ?_)
  refine lv_aload_n hx hb dX3_and_7 rfl (lv_at hl 0 rfl) ?_
  refine lv_iload_n hx hb dX3_and_8 rfl (lv_at hl 2 rfl) ?_
  refine rd_V (As := [.int (nI la)]) (rest := []) ⟨hx, hb, hml, hown, hts⟩ (c_X3_isLiteral l D cI cJ hm q0 q1 q2 q3 q4 q5 q6 q7 q8 q9 th nd fs ft mi ml fl gS gX gT gC gO fD gE sp fa (nI la)) (cwV 1 hts gX3_and_X3_isLiteral rfl rfl rfl (by decide +kernel) ⟨Nat.le_of_ble_eq_true rfl, Nat.le_of_ble_eq_true rfl⟩) (rd_pv (ci := 3) (q0 := 0) hK hP rfl rfl) rfl hl.1 rfl (Nat.le_of_ble_eq_true rfl) dX3_and_9 ⟨by show _ ≤ _; simp only [headSpec]; omega, by show _ ≤ _; simp only [headSpec]; omega⟩ ?_
  refine tp_i (show zI (decide (¬ nI la < 0 ∧ ¬ nI (2 * nd) ≤ nI la)) = nI 1 from lit_t h1 (by omega)) ?_
  refine lv_if_eq (tgt := 27) hx hb dX3_and_12 (by decide) (fun hc => absurd hc (by decide)) (fun _ => ?_)
  refine lv_aload_n hx hb dX3_and_15 rfl (lv_at hl 0 rfl) ?_
  refine lv_iload_n hx hb dX3_and_16 rfl (lv_at hl 3 rfl) ?_
  refine rd_V (As := [.int (nI lb)]) (rest := []) ⟨hx, hb, hml, hown, hts⟩ (c_X3_isLiteral l D cI cJ hm q0 q1 q2 q3 q4 q5 q6 q7 q8 q9 th nd fs ft mi ml fl gS gX gT gC gO fD gE sp fa (nI lb)) (cwV 1 hts gX3_and_X3_isLiteral rfl rfl rfl (by decide +kernel) ⟨Nat.le_of_ble_eq_true rfl, Nat.le_of_ble_eq_true rfl⟩) (rd_pv (ci := 3) (q0 := 0) hK hP rfl rfl) rfl hl.1 rfl (Nat.le_of_ble_eq_true rfl) dX3_and_17 ⟨by show _ ≤ _; simp only [headSpec]; omega, by show _ ≤ _; simp only [headSpec]; omega⟩ ?_
  refine tp_i (show zI (decide (¬ nI lb < 0 ∧ ¬ nI (2 * nd) ≤ nI lb)) = nI 1 from lit_t h2 (by omega)) ?_
  refine lv_if_eq (tgt := 27) hx hb dX3_and_20 (by decide) (fun hc => absurd hc (by decide)) (fun _ => ?_)
  refine lv_iconst (v := nI 1) hx hb dX3_and_23 (by decide) ?_
  refine lv_goto (tgt := 28) hx hb dX3_and_24 (by decide) ?_
  refine lv_istore (lv' := [(4, .int (nI 1)), (0, .ref hm), (1, .int sd), (2, .int (nI la)), (3, .int (nI lb))]) hx hb dX3_and_28 hl (by decide) rfl (fun ls hl => ?_)
  refine lv_aload_n hx hb dX3_and_30 rfl (lv_at hl 1 rfl) ?_
  refine lv_iload hx hb dX3_and_31 (lv_at hl 0 rfl) ?_
  refine lv_if_ne (tgt := 40) hx hb dX3_and_33 (by decide) (fun _ => ?_) (fun hc => absurd hc (by decide))
  refine lv_aload_n hx hb dX3_and_40 rfl (lv_at hl 1 rfl) ?_
  refine va_get (D := D) (ci := 3) (v := .int (nI nd)) (C := RX3) (T := TX3) (N := 16) hx hb hts hin3 hown hK hP 0 rfl rfl 1 (by decide) kf48 (fun _ h9 => h9) rfl dX3_and_41 ?_
  refine lv_sipush (v := nI 400) hx hb dX3_and_44 (by decide) ?_
  refine lv_icmp_ne (tgt := 54) hx hb dX3_and_47 (by decide) (fun _ => ?_) (fun hc => absurd ((nI_eq (by omega) (by omega)).mp hc) (by omega))
  refine lv_aload_n hx hb dX3_and_54 rfl (lv_at hl 1 rfl) ?_
  refine lv_iload_n hx hb dX3_and_55 rfl (lv_at hl 2 rfl) ?_
  refine lv_iload_n hx hb dX3_and_56 rfl (lv_at hl 3 rfl) ?_
  refine rd_V (As := [.int sd, .int (nI la)]) (rest := [.ref hm]) ⟨hx, hb, hml, hown, hts⟩ (c_X3_isOther l D cI cJ hm q0 q1 q2 q3 q4 q5 q6 q7 q8 q9 th nd fs ft mi ml fl gS gX gT gC gO fD gE sp fa sd la (by omega)) (cwV 2 hts gX3_and_X3_isOther rfl rfl rfl (by decide +kernel) ⟨Nat.le_of_ble_eq_true rfl, Nat.le_of_ble_eq_true rfl⟩) (rd_pv (ci := 3) (q0 := 0) hK hP rfl rfl) rfl hl.1 rfl (Nat.le_of_ble_eq_true rfl) dX3_and_57 ⟨by show _ ≤ _; simp only [headSpec]; omega, by show _ ≤ _; simp only [headSpec]; omega⟩ ?_
  refine tp_i (show zI (decide (¬ fs (la / 2) = -1 ∧ ¬ fs (la / 2) = sd)) = nI 0 from zd_0 hoa) ?_
  refine lv_if_ne (tgt := 72) hx hb dX3_and_60 (by decide) (fun hc => absurd hc (by decide)) (fun _ => ?_)
  refine lv_aload_n hx hb dX3_and_63 rfl (lv_at hl 1 rfl) ?_
  refine lv_iload_n hx hb dX3_and_64 rfl (lv_at hl 2 rfl) ?_
  refine lv_iload_n hx hb dX3_and_65 rfl (lv_at hl 4 rfl) ?_
  refine rd_V (As := [.int sd, .int (nI lb)]) (rest := [.ref hm]) ⟨hx, hb, hml, hown, hts⟩ (c_X3_isOther l D cI cJ hm q0 q1 q2 q3 q4 q5 q6 q7 q8 q9 th nd fs ft mi ml fl gS gX gT gC gO fD gE sp fa sd lb (by omega)) (cwV 2 hts gX3_and_X3_isOther rfl rfl rfl (by decide +kernel) ⟨Nat.le_of_ble_eq_true rfl, Nat.le_of_ble_eq_true rfl⟩) (rd_pv (ci := 3) (q0 := 0) hK hP rfl rfl) rfl hl.1 rfl (Nat.le_of_ble_eq_true rfl) dX3_and_66 ⟨by show _ ≤ _; simp only [headSpec]; omega, by show _ ≤ _; simp only [headSpec]; omega⟩ ?_
  refine tp_i (show zI (decide (¬ fs (lb / 2) = -1 ∧ ¬ fs (lb / 2) = sd)) = nI 0 from zd_0 hob) ?_
  refine lv_if_eq (tgt := 76) hx hb dX3_and_69 (by decide) (fun _ => ?_) (fun hc => absurd hc (by decide))
  refine lv_iconst (v := nI 0) hx hb dX3_and_76 (by decide) ?_
  refine va_put (D := D) (ci := 3) (v := .int (nI 0)) (ty := .int) (C := RX3) (T := TX3) (N := 16) hx hb hts hin3 tyX3 tyX3_ok nmX3 hown hK hP hD hS 0 rfl rfl 0 (by decide) kf44 (fun _ h9 => h9) rfl (by decide +kernel) rfl rfl (Nat.le_of_ble_eq_true rfl) dX3_and_77 (fun H locs hP hD hS => ?_)
  have hP : va_P D vwCl [(hm, .inr (3, [.int (nI 0), .int (nI nd), .ref q0, .ref q1, .int (nI mi), .int (nI ml), .ref q2, .ref q3, .ref q4, .ref q5, .ref q6, .ref q7, .ref q8, .ref q9, .int (nI sp), .int fa])), (q0, .inl (cI, 401, .inl fs)), (q1, .inl (cJ, 25664, .inr (.inl ft))), (q2, .inl (cI, 4, .inl fl)), (q3, .inl (cI, 8, .inl (fun j => nI (gS j)))), (q4, .inl (cI, 8, .inl (fun j => nI (gX j)))), (q5, .inl (cI, 8, .inl (fun j => nI (gT j)))), (q6, .inl (cI, 2, .inl (fun j => nI (gC j)))), (q7, .inl (cI, 32, .inl (fun j => nI (gO j)))), (q8, .inl (cI, 32, .inl fD)), (q9, .inl (cI, 2, .inl (fun j => nI (gE j))))] H := hP
  have hD : va_D A [(hm, .inr (3, [.int (nI 0), .int (nI nd), .ref q0, .ref q1, .int (nI mi), .int (nI ml), .ref q2, .ref q3, .ref q4, .ref q5, .ref q6, .ref q7, .ref q8, .ref q9, .int (nI sp), .int fa])), (q0, .inl (cI, 401, .inl fs)), (q1, .inl (cJ, 25664, .inr (.inl ft))), (q2, .inl (cI, 4, .inl fl)), (q3, .inl (cI, 8, .inl (fun j => nI (gS j)))), (q4, .inl (cI, 8, .inl (fun j => nI (gX j)))), (q5, .inl (cI, 8, .inl (fun j => nI (gT j)))), (q6, .inl (cI, 2, .inl (fun j => nI (gC j)))), (q7, .inl (cI, 32, .inl (fun j => nI (gO j)))), (q8, .inl (cI, 32, .inl fD)), (q9, .inl (cI, 2, .inl (fun j => nI (gE j))))] := hD
  refine lv_aload_n hx hb dX3_and_80 rfl (lv_at hl 1 rfl) ?_
  refine va_get (D := D) (ci := 3) (v := .int (nI 0)) (C := RX3) (T := TX3) (N := 16) hx hb hts hin3 hown hK hP 0 rfl rfl 0 (by decide) kf44 (fun _ h9 => h9) rfl dX3_and_81 ?_
  refine lv_if_le (tgt := 89) hx hb dX3_and_84 (by decide) (fun _ => ?_) (fun hc => absurd hc (by decide))
  refine lv_iload_n hx hb dX3_and_89 rfl (lv_at hl 3 rfl) ?_
  refine lv_iconst (v := nI 1) hx hb dX3_and_90 (by decide) ?_
  refine lv_iand hx hb dX3_and_91 ?_
  refine tp_i (show (nI la) &&& (nI 1) = nI (la % 2) from n_and1 (by omega)) ?_
  refine lv_iconst (v := nI 1) hx hb dX3_and_92 (by decide) ?_
  have loop : ∀ (n : Nat) (i : Nat) (tA9 : Int64) (tB9 : Int64), i ≤ 64 → tA9 = (if la % 2 = 1 then -1 else 0) → tB9 = (if lb % 2 = 1 then -1 else 0) → 64 - i < n → ∀ (H : Heap) (locs : List Loc) (ls : Array Slot), va_P D vwCl [(hm, .inr (3, [.int (nI 0), .int (nI nd), .ref q0, .ref q1, .int (nI mi), .int (nI ml), .ref q2, .ref q3, .ref q4, .ref q5, .ref q6, .ref q7, .ref q8, .ref q9, .int (nI sp), .int fa])), (q0, .inl (cI, 401, .inl fs)), (q1, .inl (cJ, 25664, .inr (.inl (rwF ft nd (fun w => wd ft la w &&& wd ft lb w) i)))), (q2, .inl (cI, 4, .inl fl)), (q3, .inl (cI, 8, .inl (fun j => nI (gS j)))), (q4, .inl (cI, 8, .inl (fun j => nI (gX j)))), (q5, .inl (cI, 8, .inl (fun j => nI (gT j)))), (q6, .inl (cI, 2, .inl (fun j => nI (gC j)))), (q7, .inl (cI, 32, .inl (fun j => nI (gO j)))), (q8, .inl (cI, 32, .inl fD)), (q9, .inl (cI, 2, .inl (fun j => nI (gE j))))] H → va_D A [(hm, .inr (3, [.int (nI 0), .int (nI nd), .ref q0, .ref q1, .int (nI mi), .int (nI ml), .ref q2, .ref q3, .ref q4, .ref q5, .ref q6, .ref q7, .ref q8, .ref q9, .int (nI sp), .int fa])), (q0, .inl (cI, 401, .inl fs)), (q1, .inl (cJ, 25664, .inr (.inl (rwF ft nd (fun w => wd ft la w &&& wd ft lb w) i)))), (q2, .inl (cI, 4, .inl fl)), (q3, .inl (cI, 8, .inl (fun j => nI (gS j)))), (q4, .inl (cI, 8, .inl (fun j => nI (gX j)))), (q5, .inl (cI, 8, .inl (fun j => nI (gT j)))), (q6, .inl (cI, 2, .inl (fun j => nI (gC j)))), (q7, .inl (cI, 32, .inl (fun j => nI (gO j)))), (q8, .inl (cI, 32, .inl fD)), (q9, .inl (cI, 2, .inl (fun j => nI (gE j))))] → va_S A s.heap H locs → lv_has ls 10 [(9, .int (nI i)), (7, .long tB9), (5, .long tA9), (0, .ref hm), (1, .int sd), (2, .int (nI la)), (3, .int (nI lb))] → W p l e (headSpec wsX3_and { frames := 1, cells := 0, slots := 0, locals := 22 }).room s m ([.ref hm, .int sd, .int (nI la), .int (nI lb)] : List Value).toArray below meth c H locs 0 0 (MQ below (wx (Su := Unit) D [(cI, .int), (cJ, .long)] A (fun _ => some (.int (nI (2 * nd)))) (fun _ => True) (fun _ => mW hm q0 q1 q2 q3 q4 q5 q6 q7 q8 q9 cI cJ (nI 0) (nd + 1) (upd fs nd sd) (rwF ft nd (fun w => wd ft la w &&& wd ft lb w) 64) mi ml fl gS gX gT gC gO fD gE sp fa)) ([.ref hm, .int sd, .int (nI la), .int (nI lb)] : List Value).toArray s 0 0 A) (F0 m 124 ls []) := by
    intro n
    induction n with
    | zero => intro i tA9 tB9 hi hTA hTB hM; exact absurd hM (Nat.not_lt_zero _)
    | succ n ih =>
      intro i tA9 tB9 hi hTA hTB hM H locs ls hP hD hS hl
      refine lv_iload hx hb dX3_and_124 (lv_at hl 0 rfl) ?_
      refine lv_bipush (v := nI 64) hx hb dX3_and_126 (by decide) ?_
      refine lv_icmp_ge (tgt := 187) hx hb dX3_and_128 (by decide) (fun c1 => ?_) (fun c1 => ?_)
      · have c1 : 64 ≤ i := (nI_leI (by omega) (by omega)).mp c1
        have hi2 : i = 64 := by omega
        rw [hi2] at hP hD
        refine lv_aload_n hx hb dX3_and_187 rfl (lv_at hl 3 rfl) ?_
        refine va_get (D := D) (ci := 3) (v := .ref q0) (C := RX3) (T := TX3) (N := 16) hx hb hts hin3 hown hK hP 0 rfl rfl 2 (by decide) kf7 (fun _ h9 => h9) rfl dX3_and_188 ?_
        refine lv_aload_n hx hb dX3_and_191 rfl (lv_at hl 3 rfl) ?_
        refine va_get (D := D) (ci := 3) (v := .int (nI nd)) (C := RX3) (T := TX3) (N := 16) hx hb hts hin3 hown hK hP 0 rfl rfl 1 (by decide) kf48 (fun _ h9 => h9) rfl dX3_and_192 ?_
        refine lv_iload_n hx hb dX3_and_195 rfl (lv_at hl 4 rfl) ?_
        refine va_iast hx hb hK hP hD hS 1 0 rfl rfl (vp_in_nI (by omega) (by omega)) dX3_and_196 (fun H locs hP hD hS => ?_)
        have hP : va_P D vwCl [(hm, .inr (3, [.int (nI 0), .int (nI nd), .ref q0, .ref q1, .int (nI mi), .int (nI ml), .ref q2, .ref q3, .ref q4, .ref q5, .ref q6, .ref q7, .ref q8, .ref q9, .int (nI sp), .int fa])), (q0, .inl (cI, 401, .inl (upd fs (nI nd).toNatClampNeg sd))), (q1, .inl (cJ, 25664, .inr (.inl (rwF ft nd (fun w => wd ft la w &&& wd ft lb w) 64)))), (q2, .inl (cI, 4, .inl fl)), (q3, .inl (cI, 8, .inl (fun j => nI (gS j)))), (q4, .inl (cI, 8, .inl (fun j => nI (gX j)))), (q5, .inl (cI, 8, .inl (fun j => nI (gT j)))), (q6, .inl (cI, 2, .inl (fun j => nI (gC j)))), (q7, .inl (cI, 32, .inl (fun j => nI (gO j)))), (q8, .inl (cI, 32, .inl fD)), (q9, .inl (cI, 2, .inl (fun j => nI (gE j))))] H := hP
        have hD : va_D A [(hm, .inr (3, [.int (nI 0), .int (nI nd), .ref q0, .ref q1, .int (nI mi), .int (nI ml), .ref q2, .ref q3, .ref q4, .ref q5, .ref q6, .ref q7, .ref q8, .ref q9, .int (nI sp), .int fa])), (q0, .inl (cI, 401, .inl (upd fs (nI nd).toNatClampNeg sd))), (q1, .inl (cJ, 25664, .inr (.inl (rwF ft nd (fun w => wd ft la w &&& wd ft lb w) 64)))), (q2, .inl (cI, 4, .inl fl)), (q3, .inl (cI, 8, .inl (fun j => nI (gS j)))), (q4, .inl (cI, 8, .inl (fun j => nI (gX j)))), (q5, .inl (cI, 8, .inl (fun j => nI (gT j)))), (q6, .inl (cI, 2, .inl (fun j => nI (gC j)))), (q7, .inl (cI, 32, .inl (fun j => nI (gO j)))), (q8, .inl (cI, 32, .inl fD)), (q9, .inl (cI, 2, .inl (fun j => nI (gE j))))] := hD
        rw [show upd fs (nI nd).toNatClampNeg sd = upd fs nd sd from upI _ (by omega)] at hP hD
        refine lv_aload_n hx hb dX3_and_197 rfl (lv_at hl 3 rfl) ?_
        refine lv_dup hx hb dX3_and_198 rfl ?_
        refine va_get (D := D) (ci := 3) (v := .int (nI nd)) (C := RX3) (T := TX3) (N := 16) hx hb hts hin3 hown hK hP 0 rfl rfl 1 (by decide) kf48 (fun _ h9 => h9) rfl dX3_and_199 ?_
        refine lv_iconst (v := nI 1) hx hb dX3_and_202 (by decide) ?_
        refine lv_iadd hx hb dX3_and_203 ?_
        refine tp_i (show (nI nd) + (nI 1) = nI (nd + 1) from nI_add _ _) ?_
        refine va_put (D := D) (ci := 3) (v := .int (nI (nd + 1))) (ty := .int) (C := RX3) (T := TX3) (N := 16) hx hb hts hin3 tyX3 tyX3_ok nmX3 hown hK hP hD hS 0 rfl rfl 1 (by decide) kf48 (fun _ h9 => h9) rfl (by decide +kernel) rfl rfl (Nat.le_of_ble_eq_true rfl) dX3_and_204 (fun H locs hP hD hS => ?_)
        have hP : va_P D vwCl [(hm, .inr (3, [.int (nI 0), .int (nI (nd + 1)), .ref q0, .ref q1, .int (nI mi), .int (nI ml), .ref q2, .ref q3, .ref q4, .ref q5, .ref q6, .ref q7, .ref q8, .ref q9, .int (nI sp), .int fa])), (q0, .inl (cI, 401, .inl (upd fs nd sd))), (q1, .inl (cJ, 25664, .inr (.inl (rwF ft nd (fun w => wd ft la w &&& wd ft lb w) 64)))), (q2, .inl (cI, 4, .inl fl)), (q3, .inl (cI, 8, .inl (fun j => nI (gS j)))), (q4, .inl (cI, 8, .inl (fun j => nI (gX j)))), (q5, .inl (cI, 8, .inl (fun j => nI (gT j)))), (q6, .inl (cI, 2, .inl (fun j => nI (gC j)))), (q7, .inl (cI, 32, .inl (fun j => nI (gO j)))), (q8, .inl (cI, 32, .inl fD)), (q9, .inl (cI, 2, .inl (fun j => nI (gE j))))] H := hP
        have hD : va_D A [(hm, .inr (3, [.int (nI 0), .int (nI (nd + 1)), .ref q0, .ref q1, .int (nI mi), .int (nI ml), .ref q2, .ref q3, .ref q4, .ref q5, .ref q6, .ref q7, .ref q8, .ref q9, .int (nI sp), .int fa])), (q0, .inl (cI, 401, .inl (upd fs nd sd))), (q1, .inl (cJ, 25664, .inr (.inl (rwF ft nd (fun w => wd ft la w &&& wd ft lb w) 64)))), (q2, .inl (cI, 4, .inl fl)), (q3, .inl (cI, 8, .inl (fun j => nI (gS j)))), (q4, .inl (cI, 8, .inl (fun j => nI (gX j)))), (q5, .inl (cI, 8, .inl (fun j => nI (gT j)))), (q6, .inl (cI, 2, .inl (fun j => nI (gC j)))), (q7, .inl (cI, 32, .inl (fun j => nI (gO j)))), (q8, .inl (cI, 32, .inl fD)), (q9, .inl (cI, 2, .inl (fun j => nI (gE j))))] := hD
        refine lv_iconst (v := nI 2) hx hb dX3_and_207 (by decide) ?_
        refine lv_aload_n hx hb dX3_and_208 rfl (lv_at hl 3 rfl) ?_
        refine va_get (D := D) (ci := 3) (v := .int (nI (nd + 1))) (C := RX3) (T := TX3) (N := 16) hx hb hts hin3 hown hK hP 0 rfl rfl 1 (by decide) kf48 (fun _ h9 => h9) rfl dX3_and_209 ?_
        refine lv_imul hx hb dX3_and_212 ?_
        refine tp_i (show (nI 2) * (nI (nd + 1)) = nI (2 * (nd + 1)) from pk_mul _ _) ?_
        refine lv_iconst (v := nI 2) hx hb dX3_and_213 (by decide) ?_
        refine lv_isub hx hb dX3_and_214 ?_
        refine tp_i (show (nI (2 * (nd + 1))) - (nI 2) = nI (2 * (nd + 1) - 2) from pk_sub (by omega)) ?_
        exact wr_i (()) hx hb hr hlocks hP hD hS dX3_and_215 (by rw [show 2 * (nd + 1) - 2 = 2 * nd by omega]) (trivial)
      · have c1 : ¬ (64 ≤ i) := fun h => c1 ((nI_leI (by omega) (by omega)).mpr h)
        refine lv_aload_n hx hb dX3_and_131 rfl (lv_at hl 3 rfl) ?_
        refine va_get (D := D) (ci := 3) (v := .ref q1) (C := RX3) (T := TX3) (N := 16) hx hb hts hin3 hown hK hP 0 rfl rfl 3 (by decide) kf13 (fun _ h9 => h9) rfl dX3_and_132 ?_
        refine lv_bipush (v := nI 64) hx hb dX3_and_135 (by decide) ?_
        refine lv_aload_n hx hb dX3_and_137 rfl (lv_at hl 3 rfl) ?_
        refine va_get (D := D) (ci := 3) (v := .int (nI nd)) (C := RX3) (T := TX3) (N := 16) hx hb hts hin3 hown hK hP 0 rfl rfl 1 (by decide) kf48 (fun _ h9 => h9) rfl dX3_and_138 ?_
        refine lv_imul hx hb dX3_and_141 ?_
        refine tp_i (show (nI 64) * (nI nd) = nI (nd * 64) from n_mulc _ _) ?_
        refine lv_iload hx hb dX3_and_142 (lv_at hl 0 rfl) ?_
        refine lv_iadd hx hb dX3_and_144 ?_
        refine tp_i (show (nI (nd * 64)) + (nI i) = nI (nd * 64 + i) from nI_add _ _) ?_
        refine lv_aload_n hx hb dX3_and_145 rfl (lv_at hl 3 rfl) ?_
        refine va_get (D := D) (ci := 3) (v := .ref q1) (C := RX3) (T := TX3) (N := 16) hx hb hts hin3 hown hK hP 0 rfl rfl 3 (by decide) kf13 (fun _ h9 => h9) rfl dX3_and_146 ?_
        refine lv_bipush (v := nI 64) hx hb dX3_and_149 (by decide) ?_
        refine lv_iload_n hx hb dX3_and_151 rfl (lv_at hl 5 rfl) ?_
        refine lv_iconst (v := nI 2) hx hb dX3_and_152 (by decide) ?_
        refine lv_idiv hx hb dX3_and_153 (nI_ne0 (by omega) (by omega)) ?_
        refine tp_i (show (nI la) / (nI 2) = nI (la / 2) from pk_div (by omega) (by omega) (by omega)) ?_
        refine lv_imul hx hb dX3_and_154 ?_
        refine tp_i (show (nI 64) * (nI (la / 2)) = nI ((la / 2) * 64) from n_mulc _ _) ?_
        refine lv_iload hx hb dX3_and_155 (lv_at hl 0 rfl) ?_
        refine lv_iadd hx hb dX3_and_157 ?_
        refine tp_i (show (nI ((la / 2) * 64)) + (nI i) = nI ((la / 2) * 64 + i) from nI_add _ _) ?_
        refine va_lald hx hb hK hP 2 1 rfl rfl (vp_in_nI (by omega) (by omega)) dX3_and_158 ?_
        refine tp_l (show (rwF ft nd (fun w => wd ft la w &&& wd ft lb w) i) (nI ((la / 2) * 64 + i)).toNatClampNeg = (rwF ft nd (fun w => wd ft la w &&& wd ft lb w) i) ((la / 2) * 64 + i) from congrArg (rwF ft nd (fun w => wd ft la w &&& wd ft lb w) i) (nI_clamp (by omega))) ?_
        refine lv_lload hx hb dX3_and_159 (lv_at hl 2 rfl) ?_
        refine lv_lxor hx hb dX3_and_161 ?_
        refine lv_aload_n hx hb dX3_and_162 rfl (lv_at hl 3 rfl) ?_
        refine va_get (D := D) (ci := 3) (v := .ref q1) (C := RX3) (T := TX3) (N := 16) hx hb hts hin3 hown hK hP 0 rfl rfl 3 (by decide) kf13 (fun _ h9 => h9) rfl dX3_and_163 ?_
        refine lv_bipush (v := nI 64) hx hb dX3_and_166 (by decide) ?_
        refine lv_iload_n hx hb dX3_and_168 rfl (lv_at hl 6 rfl) ?_
        refine lv_iconst (v := nI 2) hx hb dX3_and_169 (by decide) ?_
        refine lv_idiv hx hb dX3_and_170 (nI_ne0 (by omega) (by omega)) ?_
        refine tp_i (show (nI lb) / (nI 2) = nI (lb / 2) from pk_div (by omega) (by omega) (by omega)) ?_
        refine lv_imul hx hb dX3_and_171 ?_
        refine tp_i (show (nI 64) * (nI (lb / 2)) = nI ((lb / 2) * 64) from n_mulc _ _) ?_
        refine lv_iload hx hb dX3_and_172 (lv_at hl 0 rfl) ?_
        refine lv_iadd hx hb dX3_and_174 ?_
        refine tp_i (show (nI ((lb / 2) * 64)) + (nI i) = nI ((lb / 2) * 64 + i) from nI_add _ _) ?_
        refine va_lald hx hb hK hP 2 1 rfl rfl (vp_in_nI (by omega) (by omega)) dX3_and_175 ?_
        refine tp_l (show (rwF ft nd (fun w => wd ft la w &&& wd ft lb w) i) (nI ((lb / 2) * 64 + i)).toNatClampNeg = (rwF ft nd (fun w => wd ft la w &&& wd ft lb w) i) ((lb / 2) * 64 + i) from congrArg (rwF ft nd (fun w => wd ft la w &&& wd ft lb w) i) (nI_clamp (by omega))) ?_
        refine lv_lload hx hb dX3_and_176 (lv_at hl 1 rfl) ?_
        refine lv_lxor hx hb dX3_and_178 ?_
        refine lv_land hx hb dX3_and_179 ?_
        refine va_last hx hb hK hP hD hS 2 1 rfl rfl (vp_in_nI (by omega) (by omega)) dX3_and_180 (fun H locs hP hD hS => ?_)
        have hP : va_P D vwCl [(hm, .inr (3, [.int (nI 0), .int (nI nd), .ref q0, .ref q1, .int (nI mi), .int (nI ml), .ref q2, .ref q3, .ref q4, .ref q5, .ref q6, .ref q7, .ref q8, .ref q9, .int (nI sp), .int fa])), (q0, .inl (cI, 401, .inl fs)), (q1, .inl (cJ, 25664, .inr (.inl (vp_updL (rwF ft nd (fun w => wd ft la w &&& wd ft lb w) i) (nI (nd * 64 + i)).toNatClampNeg ((((rwF ft nd (fun w => wd ft la w &&& wd ft lb w) i) ((la / 2) * 64 + i)) ^^^ tA9) &&& (((rwF ft nd (fun w => wd ft la w &&& wd ft lb w) i) ((lb / 2) * 64 + i)) ^^^ tB9)))))), (q2, .inl (cI, 4, .inl fl)), (q3, .inl (cI, 8, .inl (fun j => nI (gS j)))), (q4, .inl (cI, 8, .inl (fun j => nI (gX j)))), (q5, .inl (cI, 8, .inl (fun j => nI (gT j)))), (q6, .inl (cI, 2, .inl (fun j => nI (gC j)))), (q7, .inl (cI, 32, .inl (fun j => nI (gO j)))), (q8, .inl (cI, 32, .inl fD)), (q9, .inl (cI, 2, .inl (fun j => nI (gE j))))] H := hP
        have hD : va_D A [(hm, .inr (3, [.int (nI 0), .int (nI nd), .ref q0, .ref q1, .int (nI mi), .int (nI ml), .ref q2, .ref q3, .ref q4, .ref q5, .ref q6, .ref q7, .ref q8, .ref q9, .int (nI sp), .int fa])), (q0, .inl (cI, 401, .inl fs)), (q1, .inl (cJ, 25664, .inr (.inl (vp_updL (rwF ft nd (fun w => wd ft la w &&& wd ft lb w) i) (nI (nd * 64 + i)).toNatClampNeg ((((rwF ft nd (fun w => wd ft la w &&& wd ft lb w) i) ((la / 2) * 64 + i)) ^^^ tA9) &&& (((rwF ft nd (fun w => wd ft la w &&& wd ft lb w) i) ((lb / 2) * 64 + i)) ^^^ tB9)))))), (q2, .inl (cI, 4, .inl fl)), (q3, .inl (cI, 8, .inl (fun j => nI (gS j)))), (q4, .inl (cI, 8, .inl (fun j => nI (gX j)))), (q5, .inl (cI, 8, .inl (fun j => nI (gT j)))), (q6, .inl (cI, 2, .inl (fun j => nI (gC j)))), (q7, .inl (cI, 32, .inl (fun j => nI (gO j)))), (q8, .inl (cI, 32, .inl fD)), (q9, .inl (cI, 2, .inl (fun j => nI (gE j))))] := hD
        rw [show vp_updL (rwF ft nd (fun w => wd ft la w &&& wd ft lb w) i) (nI (nd * 64 + i)).toNatClampNeg ((((rwF ft nd (fun w => wd ft la w &&& wd ft lb w) i) ((la / 2) * 64 + i)) ^^^ tA9) &&& (((rwF ft nd (fun w => wd ft la w &&& wd ft lb w) i) ((lb / 2) * 64 + i)) ^^^ tB9)) = rwF ft nd (fun w => wd ft la w &&& wd ft lb w) (i + 1) from rwF_up (by omega) (by rw [rwF_lo (by omega), rwF_lo (by omega), and_w hTA, and_w hTB])] at hP hD
        refine lv_iinc (v := nI (i + 1)) (lv' := [(9, .int (nI (i + 1))), (7, .long tB9), (5, .long tA9), (0, .ref hm), (1, .int sd), (2, .int (nI la)), (3, .int (nI lb))]) hx hb dX3_and_181 hl (k := 0) rfl (nI_add i 1) (by decide) rfl (fun ls hl => ?_)
        refine lv_goto (tgt := 124) hx hb dX3_and_184 (by decide) ?_
        exact ih (i + 1) tA9 tB9 (by omega) (hTA) (hTB) (by omega) _ _ ls hP hD hS (lv_sub hl [0, 1, 2, 3, 4, 5, 6] rfl)
  refine lv_icmp_ne (tgt := 102) hx hb dX3_and_93 (by decide) (fun c1 => ?_) (fun c1 => ?_)
  · have c1 : ¬ la % 2 = 1 := fun h => c1 ((nI_eq (by omega) (by omega)).mpr h)
    refine lv_lconst (v := 0) hx hb dX3_and_102 (by decide) ?_
    refine lv_lstore (lv' := [(5, .long 0), (4, .int (nI 1)), (0, .ref hm), (1, .int sd), (2, .int (nI la)), (3, .int (nI lb))]) hx hb dX3_and_103 hl (by decide) rfl (fun ls hl => ?_)
    refine lv_iload_n hx hb dX3_and_105 rfl (lv_at hl 5 rfl) ?_
    refine lv_iconst (v := nI 1) hx hb dX3_and_106 (by decide) ?_
    refine lv_iand hx hb dX3_and_107 ?_
    refine tp_i (show (nI lb) &&& (nI 1) = nI (lb % 2) from n_and1 (by omega)) ?_
    refine lv_iconst (v := nI 1) hx hb dX3_and_108 (by decide) ?_
    refine lv_icmp_ne (tgt := 118) hx hb dX3_and_109 (by decide) (fun c2 => ?_) (fun c2 => ?_)
    · have c2 : ¬ lb % 2 = 1 := fun h => c2 ((nI_eq (by omega) (by omega)).mpr h)
      refine lv_lconst (v := 0) hx hb dX3_and_118 (by decide) ?_
      refine lv_lstore (lv' := [(7, .long 0), (5, .long 0), (4, .int (nI 1)), (0, .ref hm), (1, .int sd), (2, .int (nI la)), (3, .int (nI lb))]) hx hb dX3_and_119 hl (by decide) rfl (fun ls hl => ?_)
      refine lv_iconst (v := nI 0) hx hb dX3_and_121 (by decide) ?_
      refine lv_istore (lv' := [(9, .int (nI 0)), (7, .long 0), (5, .long 0), (4, .int (nI 1)), (0, .ref hm), (1, .int sd), (2, .int (nI la)), (3, .int (nI lb))]) hx hb dX3_and_122 hl (by decide) rfl (fun ls hl => ?_)
      exact loop 65 0 0 0 (by omega) ((if_neg c1).symm) ((if_neg c2).symm) (by omega) _ _ ls (by rw [rwF_0]; exact hP) (by rw [rwF_0]; exact hD) hS (lv_sub hl [0, 1, 2, 4, 5, 6, 7] rfl)
    · have c2 : lb % 2 = 1 := (nI_eq (by omega) (by omega)).mp c2
      refine lv_ldc2 hx hb hown (hts (.constantLong RX3 75 (-1)) (by decide +kernel)) dX3_and_112 ?_
      refine lv_goto (tgt := 119) hx hb dX3_and_115 (by decide) ?_
      refine lv_lstore (lv' := [(7, .long (-1)), (5, .long 0), (4, .int (nI 1)), (0, .ref hm), (1, .int sd), (2, .int (nI la)), (3, .int (nI lb))]) hx hb dX3_and_119 hl (by decide) rfl (fun ls hl => ?_)
      refine lv_iconst (v := nI 0) hx hb dX3_and_121 (by decide) ?_
      refine lv_istore (lv' := [(9, .int (nI 0)), (7, .long (-1)), (5, .long 0), (4, .int (nI 1)), (0, .ref hm), (1, .int sd), (2, .int (nI la)), (3, .int (nI lb))]) hx hb dX3_and_122 hl (by decide) rfl (fun ls hl => ?_)
      exact loop 65 0 0 (-1) (by omega) ((if_neg c1).symm) ((if_pos c2).symm) (by omega) _ _ ls (by rw [rwF_0]; exact hP) (by rw [rwF_0]; exact hD) hS (lv_sub hl [0, 1, 2, 4, 5, 6, 7] rfl)
  · have c1 : la % 2 = 1 := (nI_eq (by omega) (by omega)).mp c1
    refine lv_ldc2 hx hb hown (hts (.constantLong RX3 75 (-1)) (by decide +kernel)) dX3_and_96 ?_
    refine lv_goto (tgt := 103) hx hb dX3_and_99 (by decide) ?_
    refine lv_lstore (lv' := [(5, .long (-1)), (4, .int (nI 1)), (0, .ref hm), (1, .int sd), (2, .int (nI la)), (3, .int (nI lb))]) hx hb dX3_and_103 hl (by decide) rfl (fun ls hl => ?_)
    refine lv_iload_n hx hb dX3_and_105 rfl (lv_at hl 5 rfl) ?_
    refine lv_iconst (v := nI 1) hx hb dX3_and_106 (by decide) ?_
    refine lv_iand hx hb dX3_and_107 ?_
    refine tp_i (show (nI lb) &&& (nI 1) = nI (lb % 2) from n_and1 (by omega)) ?_
    refine lv_iconst (v := nI 1) hx hb dX3_and_108 (by decide) ?_
    refine lv_icmp_ne (tgt := 118) hx hb dX3_and_109 (by decide) (fun c2 => ?_) (fun c2 => ?_)
    · have c2 : ¬ lb % 2 = 1 := fun h => c2 ((nI_eq (by omega) (by omega)).mpr h)
      refine lv_lconst (v := 0) hx hb dX3_and_118 (by decide) ?_
      refine lv_lstore (lv' := [(7, .long 0), (5, .long (-1)), (4, .int (nI 1)), (0, .ref hm), (1, .int sd), (2, .int (nI la)), (3, .int (nI lb))]) hx hb dX3_and_119 hl (by decide) rfl (fun ls hl => ?_)
      refine lv_iconst (v := nI 0) hx hb dX3_and_121 (by decide) ?_
      refine lv_istore (lv' := [(9, .int (nI 0)), (7, .long 0), (5, .long (-1)), (4, .int (nI 1)), (0, .ref hm), (1, .int sd), (2, .int (nI la)), (3, .int (nI lb))]) hx hb dX3_and_122 hl (by decide) rfl (fun ls hl => ?_)
      exact loop 65 0 (-1) 0 (by omega) ((if_pos c1).symm) ((if_neg c2).symm) (by omega) _ _ ls (by rw [rwF_0]; exact hP) (by rw [rwF_0]; exact hD) hS (lv_sub hl [0, 1, 2, 4, 5, 6, 7] rfl)
    · have c2 : lb % 2 = 1 := (nI_eq (by omega) (by omega)).mp c2
      refine lv_ldc2 hx hb hown (hts (.constantLong RX3 75 (-1)) (by decide +kernel)) dX3_and_112 ?_
      refine lv_goto (tgt := 119) hx hb dX3_and_115 (by decide) ?_
      refine lv_lstore (lv' := [(7, .long (-1)), (5, .long (-1)), (4, .int (nI 1)), (0, .ref hm), (1, .int sd), (2, .int (nI la)), (3, .int (nI lb))]) hx hb dX3_and_119 hl (by decide) rfl (fun ls hl => ?_)
      refine lv_iconst (v := nI 0) hx hb dX3_and_121 (by decide) ?_
      refine lv_istore (lv' := [(9, .int (nI 0)), (7, .long (-1)), (5, .long (-1)), (4, .int (nI 1)), (0, .ref hm), (1, .int sd), (2, .int (nI la)), (3, .int (nI lb))]) hx hb dX3_and_122 hl (by decide) rfl (fun ls hl => ?_)
      exact loop 65 0 (-1) (-1) (by omega) ((if_pos c1).symm) ((if_pos c2).symm) (by omega) _ _ ls (by rw [rwF_0]; exact hP) (by rw [rwF_0]; exact hD) hS (lv_sub hl [0, 1, 2, 4, 5, 6, 7] rfl)
set_option maxHeartbeats 4000000 in
set_option maxRecDepth 100000 in
/-- and: no such side or literal -/
theorem w_X3_andB1 (sd x y : Int32) (hb0 : ¬ (sd = 0 ∨ sd = 1) ∨ (x < 0 ∨ nI (2 * nd) ≤ x) ∨ (y < 0 ∨ nI (2 * nd) ≤ y)) (sz : Nat) : Met l yX3_and wsX3_and { frames := 1, cells := 0, slots := 0, locals := 22 } (wr_P D [(cI, .int), (cJ, .long)] (mW hm q0 q1 q2 q3 q4 q5 q6 q7 q8 q9 cI cJ th nd fs ft mi ml fl gS gX gT gC gO fD gE sp fa) sz tp [.ref hm, .int sd, .int x, .int y]) (wx (Su := Unit) D [(cI, .int), (cJ, .long)] (va_A (mW hm q0 q1 q2 q3 q4 q5 q6 q7 q8 q9 cI cJ th nd fs ft mi ml fl gS gX gT gC gO fD gE sp fa) sz) (fun _ => some (.int (nI 0))) (fun _ => True) (fun _ => mW hm q0 q1 q2 q3 q4 q5 q6 q7 q8 q9 cI cJ (nI 1) nd fs ft mi ml fl gS gX gT gC gO fD gE sp fa)) 0 0 (va_A (mW hm q0 q1 q2 q3 q4 q5 q6 q7 q8 q9 cI cJ th nd fs ft mi ml fl gS gX gT gC gO fD gE sp fa) sz) := by
  refine Met.ofW (cc := cX3_and) (maxL := 10) (ret := (some .int)) (by decide) rfl ?_
  intro p e s m args below meth c s₁ B hml hv
  obtain ⟨rfl, hsz, ⟨hP, hK, hD0⟩, hE⟩ := hv
  have hx := B.exec
  have hb := B.bytes
  have hr := B.returns
  have hts := atoms_spec (ws := wsX3_and) B.pre
  have hown : s.vm.findClass RX3 = some m.cls := findClass_of_methodNamed B.named
  have hlocks := B.notSynchronized
  subst hsz
  have hD := hD0.self (sz := s.heap.size)
  generalize hAe : va_A (mW hm q0 q1 q2 q3 q4 q5 q6 q7 q8 q9 cI cJ th nd fs ft mi ml fl gS gX gT gC gO fD gE sp fa) s.heap.size = A at hD hE ⊢
  have hA : ∀ q : Nat, s.heap.size ≤ q → A q := fun q h => by rw [← hAe]; exact Or.inr h
  have hS : va_S A s.heap s.heap [] := va_S.rf
  have hP : va_P D vwCl [(hm, .inr (3, [.int th, .int (nI nd), .ref q0, .ref q1, .int (nI mi), .int (nI ml), .ref q2, .ref q3, .ref q4, .ref q5, .ref q6, .ref q7, .ref q8, .ref q9, .int (nI sp), .int fa])), (q0, .inl (cI, 401, .inl fs)), (q1, .inl (cJ, 25664, .inr (.inl ft))), (q2, .inl (cI, 4, .inl fl)), (q3, .inl (cI, 8, .inl (fun j => nI (gS j)))), (q4, .inl (cI, 8, .inl (fun j => nI (gX j)))), (q5, .inl (cI, 8, .inl (fun j => nI (gT j)))), (q6, .inl (cI, 2, .inl (fun j => nI (gC j)))), (q7, .inl (cI, 32, .inl (fun j => nI (gO j)))), (q8, .inl (cI, 32, .inl fD)), (q9, .inl (cI, 2, .inl (fun j => nI (gE j))))] s.heap := hP
  have hD : va_D A [(hm, .inr (3, [.int th, .int (nI nd), .ref q0, .ref q1, .int (nI mi), .int (nI ml), .ref q2, .ref q3, .ref q4, .ref q5, .ref q6, .ref q7, .ref q8, .ref q9, .int (nI sp), .int fa])), (q0, .inl (cI, 401, .inl fs)), (q1, .inl (cJ, 25664, .inr (.inl ft))), (q2, .inl (cI, 4, .inl fl)), (q3, .inl (cI, 8, .inl (fun j => nI (gS j)))), (q4, .inl (cI, 8, .inl (fun j => nI (gX j)))), (q5, .inl (cI, 8, .inl (fun j => nI (gT j)))), (q6, .inl (cI, 2, .inl (fun j => nI (gC j)))), (q7, .inl (cI, 32, .inl (fun j => nI (gO j)))), (q8, .inl (cI, 32, .inl fD)), (q9, .inl (cI, 2, .inl (fun j => nI (gE j))))] := hD
  have hl := lv_entry ([.ref hm, .int sd, .int x, .int y]) (n := 10) (Nat.le_of_ble_eq_true rfl)
  rw [lg_entry_eq]
  generalize (lg_sl ([.ref hm, .int sd, .int x, .int y]) ++ List.replicate (10 - (lg_sl ([.ref hm, .int sd, .int x, .int y])).length) Slot.unset).toArray = ls at hl ⊢
  have hl : lv_has ls 10 [(0, .ref hm), (1, .int sd), (2, .int x), (3, .int y)] := hl
  have hin3 : ∀ w ∈ wsX30, w ∈ wsX3_and := by decide +kernel
  have kf48 := hts (.fieldLink RX3 48 "SweepEqualModel" "nodes" "I") (by decide +kernel)
  have kf44 := hts (.fieldLink RX3 44 "SweepEqualModel" "thrown" "I") (by decide +kernel)
  have kf13 := hts (.fieldLink RX3 13 "SweepEqualModel" "tables" "[J") (by decide +kernel)
  have kf7 := hts (.fieldLink RX3 7 "SweepEqualModel" "sides" "[I") (by decide +kernel)
  refine lv_iload_n hx hb dX3_and_0 rfl (lv_at hl 1 rfl) ?_
  refine rd_S (As := [.int sd]) (rest := []) ⟨hx, hb, hml, hown, hts⟩ (c_X3_isSide l sd) (va_cwS 1 hts gX3_and_X3_isSide rfl rfl rfl (by decide +kernel) ⟨Nat.le_of_ble_eq_true rfl, Nat.le_of_ble_eq_true rfl⟩) preEq rfl hl.1 rfl (Nat.le_of_ble_eq_true rfl) dX3_and_1 ⟨by show _ ≤ _; simp only [headSpec]; omega, by show _ ≤ _; simp only [headSpec]; omega⟩ ?_
  refine lv_if_eq (tgt := 27) hx hb dX3_and_4 (by decide) (fun c1 => ?_) (fun c1 => ?_)
  · refine lv_iconst (v := nI 0) hx hb dX3_and_27 (by decide) ?_
    refine lv_istore (lv' := [(4, .int (nI 0)), (0, .ref hm), (1, .int sd), (2, .int x), (3, .int y)]) hx hb dX3_and_28 hl (by decide) rfl (fun ls hl => ?_)
    refine lv_aload_n hx hb dX3_and_30 rfl (lv_at hl 1 rfl) ?_
    refine lv_iload hx hb dX3_and_31 (lv_at hl 0 rfl) ?_
    refine lv_if_ne (tgt := 40) hx hb dX3_and_33 (by decide) (fun hc => absurd hc (by decide)) (fun _ => ?_)
    refine lv_iconst (v := nI 1) hx hb dX3_and_36 (by decide) ?_
    refine lv_goto (tgt := 77) hx hb dX3_and_37 (by decide) ?_
    refine va_put (D := D) (ci := 3) (v := .int (nI 1)) (ty := .int) (C := RX3) (T := TX3) (N := 16) hx hb hts hin3 tyX3 tyX3_ok nmX3 hown hK hP hD hS 0 rfl rfl 0 (by decide) kf44 (fun _ h9 => h9) rfl (by decide +kernel) rfl rfl (Nat.le_of_ble_eq_true rfl) dX3_and_77 (fun H locs hP hD hS => ?_)
    have hP : va_P D vwCl [(hm, .inr (3, [.int (nI 1), .int (nI nd), .ref q0, .ref q1, .int (nI mi), .int (nI ml), .ref q2, .ref q3, .ref q4, .ref q5, .ref q6, .ref q7, .ref q8, .ref q9, .int (nI sp), .int fa])), (q0, .inl (cI, 401, .inl fs)), (q1, .inl (cJ, 25664, .inr (.inl ft))), (q2, .inl (cI, 4, .inl fl)), (q3, .inl (cI, 8, .inl (fun j => nI (gS j)))), (q4, .inl (cI, 8, .inl (fun j => nI (gX j)))), (q5, .inl (cI, 8, .inl (fun j => nI (gT j)))), (q6, .inl (cI, 2, .inl (fun j => nI (gC j)))), (q7, .inl (cI, 32, .inl (fun j => nI (gO j)))), (q8, .inl (cI, 32, .inl fD)), (q9, .inl (cI, 2, .inl (fun j => nI (gE j))))] H := hP
    have hD : va_D A [(hm, .inr (3, [.int (nI 1), .int (nI nd), .ref q0, .ref q1, .int (nI mi), .int (nI ml), .ref q2, .ref q3, .ref q4, .ref q5, .ref q6, .ref q7, .ref q8, .ref q9, .int (nI sp), .int fa])), (q0, .inl (cI, 401, .inl fs)), (q1, .inl (cJ, 25664, .inr (.inl ft))), (q2, .inl (cI, 4, .inl fl)), (q3, .inl (cI, 8, .inl (fun j => nI (gS j)))), (q4, .inl (cI, 8, .inl (fun j => nI (gX j)))), (q5, .inl (cI, 8, .inl (fun j => nI (gT j)))), (q6, .inl (cI, 2, .inl (fun j => nI (gC j)))), (q7, .inl (cI, 32, .inl (fun j => nI (gO j)))), (q8, .inl (cI, 32, .inl fD)), (q9, .inl (cI, 2, .inl (fun j => nI (gE j))))] := hD
    refine lv_aload_n hx hb dX3_and_80 rfl (lv_at hl 1 rfl) ?_
    refine va_get (D := D) (ci := 3) (v := .int (nI 1)) (C := RX3) (T := TX3) (N := 16) hx hb hts hin3 hown hK hP 0 rfl rfl 0 (by decide) kf44 (fun _ h9 => h9) rfl dX3_and_81 ?_
    refine lv_if_le (tgt := 89) hx hb dX3_and_84 (by decide) (fun hc => absurd hc (by decide)) (fun _ => ?_)
    refine lv_iconst (v := nI 0) hx hb dX3_and_87 (by decide) ?_
    exact wr_i (()) hx hb hr hlocks hP hD hS dX3_and_88 (rfl) (trivial)
  · refine lv_aload_n hx hb dX3_and_7 rfl (lv_at hl 0 rfl) ?_
    refine lv_iload_n hx hb dX3_and_8 rfl (lv_at hl 2 rfl) ?_
    refine rd_V (As := [.int x]) (rest := []) ⟨hx, hb, hml, hown, hts⟩ (c_X3_isLiteral l D cI cJ hm q0 q1 q2 q3 q4 q5 q6 q7 q8 q9 th nd fs ft mi ml fl gS gX gT gC gO fD gE sp fa x) (cwV 1 hts gX3_and_X3_isLiteral rfl rfl rfl (by decide +kernel) ⟨Nat.le_of_ble_eq_true rfl, Nat.le_of_ble_eq_true rfl⟩) (rd_pv (ci := 3) (q0 := 0) hK hP rfl rfl) rfl hl.1 rfl (Nat.le_of_ble_eq_true rfl) dX3_and_9 ⟨by show _ ≤ _; simp only [headSpec]; omega, by show _ ≤ _; simp only [headSpec]; omega⟩ ?_
    refine lv_if_eq (tgt := 27) hx hb dX3_and_12 (by decide) (fun c2 => ?_) (fun c2 => ?_)
    · refine lv_iconst (v := nI 0) hx hb dX3_and_27 (by decide) ?_
      refine lv_istore (lv' := [(4, .int (nI 0)), (0, .ref hm), (1, .int sd), (2, .int x), (3, .int y)]) hx hb dX3_and_28 hl (by decide) rfl (fun ls hl => ?_)
      refine lv_aload_n hx hb dX3_and_30 rfl (lv_at hl 1 rfl) ?_
      refine lv_iload hx hb dX3_and_31 (lv_at hl 0 rfl) ?_
      refine lv_if_ne (tgt := 40) hx hb dX3_and_33 (by decide) (fun hc => absurd hc (by decide)) (fun _ => ?_)
      refine lv_iconst (v := nI 1) hx hb dX3_and_36 (by decide) ?_
      refine lv_goto (tgt := 77) hx hb dX3_and_37 (by decide) ?_
      refine va_put (D := D) (ci := 3) (v := .int (nI 1)) (ty := .int) (C := RX3) (T := TX3) (N := 16) hx hb hts hin3 tyX3 tyX3_ok nmX3 hown hK hP hD hS 0 rfl rfl 0 (by decide) kf44 (fun _ h9 => h9) rfl (by decide +kernel) rfl rfl (Nat.le_of_ble_eq_true rfl) dX3_and_77 (fun H locs hP hD hS => ?_)
      have hP : va_P D vwCl [(hm, .inr (3, [.int (nI 1), .int (nI nd), .ref q0, .ref q1, .int (nI mi), .int (nI ml), .ref q2, .ref q3, .ref q4, .ref q5, .ref q6, .ref q7, .ref q8, .ref q9, .int (nI sp), .int fa])), (q0, .inl (cI, 401, .inl fs)), (q1, .inl (cJ, 25664, .inr (.inl ft))), (q2, .inl (cI, 4, .inl fl)), (q3, .inl (cI, 8, .inl (fun j => nI (gS j)))), (q4, .inl (cI, 8, .inl (fun j => nI (gX j)))), (q5, .inl (cI, 8, .inl (fun j => nI (gT j)))), (q6, .inl (cI, 2, .inl (fun j => nI (gC j)))), (q7, .inl (cI, 32, .inl (fun j => nI (gO j)))), (q8, .inl (cI, 32, .inl fD)), (q9, .inl (cI, 2, .inl (fun j => nI (gE j))))] H := hP
      have hD : va_D A [(hm, .inr (3, [.int (nI 1), .int (nI nd), .ref q0, .ref q1, .int (nI mi), .int (nI ml), .ref q2, .ref q3, .ref q4, .ref q5, .ref q6, .ref q7, .ref q8, .ref q9, .int (nI sp), .int fa])), (q0, .inl (cI, 401, .inl fs)), (q1, .inl (cJ, 25664, .inr (.inl ft))), (q2, .inl (cI, 4, .inl fl)), (q3, .inl (cI, 8, .inl (fun j => nI (gS j)))), (q4, .inl (cI, 8, .inl (fun j => nI (gX j)))), (q5, .inl (cI, 8, .inl (fun j => nI (gT j)))), (q6, .inl (cI, 2, .inl (fun j => nI (gC j)))), (q7, .inl (cI, 32, .inl (fun j => nI (gO j)))), (q8, .inl (cI, 32, .inl fD)), (q9, .inl (cI, 2, .inl (fun j => nI (gE j))))] := hD
      refine lv_aload_n hx hb dX3_and_80 rfl (lv_at hl 1 rfl) ?_
      refine va_get (D := D) (ci := 3) (v := .int (nI 1)) (C := RX3) (T := TX3) (N := 16) hx hb hts hin3 hown hK hP 0 rfl rfl 0 (by decide) kf44 (fun _ h9 => h9) rfl dX3_and_81 ?_
      refine lv_if_le (tgt := 89) hx hb dX3_and_84 (by decide) (fun hc => absurd hc (by decide)) (fun _ => ?_)
      refine lv_iconst (v := nI 0) hx hb dX3_and_87 (by decide) ?_
      exact wr_i (()) hx hb hr hlocks hP hD hS dX3_and_88 (rfl) (trivial)
    · refine lv_aload_n hx hb dX3_and_15 rfl (lv_at hl 0 rfl) ?_
      refine lv_iload_n hx hb dX3_and_16 rfl (lv_at hl 3 rfl) ?_
      refine rd_V (As := [.int y]) (rest := []) ⟨hx, hb, hml, hown, hts⟩ (c_X3_isLiteral l D cI cJ hm q0 q1 q2 q3 q4 q5 q6 q7 q8 q9 th nd fs ft mi ml fl gS gX gT gC gO fD gE sp fa y) (cwV 1 hts gX3_and_X3_isLiteral rfl rfl rfl (by decide +kernel) ⟨Nat.le_of_ble_eq_true rfl, Nat.le_of_ble_eq_true rfl⟩) (rd_pv (ci := 3) (q0 := 0) hK hP rfl rfl) rfl hl.1 rfl (Nat.le_of_ble_eq_true rfl) dX3_and_17 ⟨by show _ ≤ _; simp only [headSpec]; omega, by show _ ≤ _; simp only [headSpec]; omega⟩ ?_
      refine lv_if_eq (tgt := 27) hx hb dX3_and_20 (by decide) (fun c3 => ?_) (fun c3 => ?_)
      · refine lv_iconst (v := nI 0) hx hb dX3_and_27 (by decide) ?_
        refine lv_istore (lv' := [(4, .int (nI 0)), (0, .ref hm), (1, .int sd), (2, .int x), (3, .int y)]) hx hb dX3_and_28 hl (by decide) rfl (fun ls hl => ?_)
        refine lv_aload_n hx hb dX3_and_30 rfl (lv_at hl 1 rfl) ?_
        refine lv_iload hx hb dX3_and_31 (lv_at hl 0 rfl) ?_
        refine lv_if_ne (tgt := 40) hx hb dX3_and_33 (by decide) (fun hc => absurd hc (by decide)) (fun _ => ?_)
        refine lv_iconst (v := nI 1) hx hb dX3_and_36 (by decide) ?_
        refine lv_goto (tgt := 77) hx hb dX3_and_37 (by decide) ?_
        refine va_put (D := D) (ci := 3) (v := .int (nI 1)) (ty := .int) (C := RX3) (T := TX3) (N := 16) hx hb hts hin3 tyX3 tyX3_ok nmX3 hown hK hP hD hS 0 rfl rfl 0 (by decide) kf44 (fun _ h9 => h9) rfl (by decide +kernel) rfl rfl (Nat.le_of_ble_eq_true rfl) dX3_and_77 (fun H locs hP hD hS => ?_)
        have hP : va_P D vwCl [(hm, .inr (3, [.int (nI 1), .int (nI nd), .ref q0, .ref q1, .int (nI mi), .int (nI ml), .ref q2, .ref q3, .ref q4, .ref q5, .ref q6, .ref q7, .ref q8, .ref q9, .int (nI sp), .int fa])), (q0, .inl (cI, 401, .inl fs)), (q1, .inl (cJ, 25664, .inr (.inl ft))), (q2, .inl (cI, 4, .inl fl)), (q3, .inl (cI, 8, .inl (fun j => nI (gS j)))), (q4, .inl (cI, 8, .inl (fun j => nI (gX j)))), (q5, .inl (cI, 8, .inl (fun j => nI (gT j)))), (q6, .inl (cI, 2, .inl (fun j => nI (gC j)))), (q7, .inl (cI, 32, .inl (fun j => nI (gO j)))), (q8, .inl (cI, 32, .inl fD)), (q9, .inl (cI, 2, .inl (fun j => nI (gE j))))] H := hP
        have hD : va_D A [(hm, .inr (3, [.int (nI 1), .int (nI nd), .ref q0, .ref q1, .int (nI mi), .int (nI ml), .ref q2, .ref q3, .ref q4, .ref q5, .ref q6, .ref q7, .ref q8, .ref q9, .int (nI sp), .int fa])), (q0, .inl (cI, 401, .inl fs)), (q1, .inl (cJ, 25664, .inr (.inl ft))), (q2, .inl (cI, 4, .inl fl)), (q3, .inl (cI, 8, .inl (fun j => nI (gS j)))), (q4, .inl (cI, 8, .inl (fun j => nI (gX j)))), (q5, .inl (cI, 8, .inl (fun j => nI (gT j)))), (q6, .inl (cI, 2, .inl (fun j => nI (gC j)))), (q7, .inl (cI, 32, .inl (fun j => nI (gO j)))), (q8, .inl (cI, 32, .inl fD)), (q9, .inl (cI, 2, .inl (fun j => nI (gE j))))] := hD
        refine lv_aload_n hx hb dX3_and_80 rfl (lv_at hl 1 rfl) ?_
        refine va_get (D := D) (ci := 3) (v := .int (nI 1)) (C := RX3) (T := TX3) (N := 16) hx hb hts hin3 hown hK hP 0 rfl rfl 0 (by decide) kf44 (fun _ h9 => h9) rfl dX3_and_81 ?_
        refine lv_if_le (tgt := 89) hx hb dX3_and_84 (by decide) (fun hc => absurd hc (by decide)) (fun _ => ?_)
        refine lv_iconst (v := nI 0) hx hb dX3_and_87 (by decide) ?_
        exact wr_i (()) hx hb hr hlocks hP hD hS dX3_and_88 (rfl) (trivial)
      · exact (hb0.elim (fun q => q (zd_t c1)) (fun q => q.elim (fun q => q.elim (zd_t c2).1 (zd_t c2).2) (fun q => q.elim (zd_t c3).1 (zd_t c3).2))).elim
set_option maxHeartbeats 4000000 in
set_option maxRecDepth 100000 in
/-- and: no room -/
theorem w_X3_andB2 (sd : Int32) (la lb : Nat) (hs : sd = 0 ∨ sd = 1) (h1 : la < 2 * nd) (h2 : lb < 2 * nd) (hnd : nd = 400) (sz : Nat) : Met l yX3_and wsX3_and { frames := 1, cells := 0, slots := 0, locals := 22 } (wr_P D [(cI, .int), (cJ, .long)] (mW hm q0 q1 q2 q3 q4 q5 q6 q7 q8 q9 cI cJ th nd fs ft mi ml fl gS gX gT gC gO fD gE sp fa) sz tp [.ref hm, .int sd, .int (nI la), .int (nI lb)]) (wx (Su := Unit) D [(cI, .int), (cJ, .long)] (va_A (mW hm q0 q1 q2 q3 q4 q5 q6 q7 q8 q9 cI cJ th nd fs ft mi ml fl gS gX gT gC gO fD gE sp fa) sz) (fun _ => some (.int (nI 0))) (fun _ => True) (fun _ => mW hm q0 q1 q2 q3 q4 q5 q6 q7 q8 q9 cI cJ (nI 2) nd fs ft mi ml fl gS gX gT gC gO fD gE sp fa)) 0 0 (va_A (mW hm q0 q1 q2 q3 q4 q5 q6 q7 q8 q9 cI cJ th nd fs ft mi ml fl gS gX gT gC gO fD gE sp fa) sz) := by
  refine Met.ofW (cc := cX3_and) (maxL := 10) (ret := (some .int)) (by decide) rfl ?_
  intro p e s m args below meth c s₁ B hml hv
  obtain ⟨rfl, hsz, ⟨hP, hK, hD0⟩, hE⟩ := hv
  have hx := B.exec
  have hb := B.bytes
  have hr := B.returns
  have hts := atoms_spec (ws := wsX3_and) B.pre
  have hown : s.vm.findClass RX3 = some m.cls := findClass_of_methodNamed B.named
  have hlocks := B.notSynchronized
  subst hsz
  have hD := hD0.self (sz := s.heap.size)
  generalize hAe : va_A (mW hm q0 q1 q2 q3 q4 q5 q6 q7 q8 q9 cI cJ th nd fs ft mi ml fl gS gX gT gC gO fD gE sp fa) s.heap.size = A at hD hE ⊢
  have hA : ∀ q : Nat, s.heap.size ≤ q → A q := fun q h => by rw [← hAe]; exact Or.inr h
  have hS : va_S A s.heap s.heap [] := va_S.rf
  have hP : va_P D vwCl [(hm, .inr (3, [.int th, .int (nI nd), .ref q0, .ref q1, .int (nI mi), .int (nI ml), .ref q2, .ref q3, .ref q4, .ref q5, .ref q6, .ref q7, .ref q8, .ref q9, .int (nI sp), .int fa])), (q0, .inl (cI, 401, .inl fs)), (q1, .inl (cJ, 25664, .inr (.inl ft))), (q2, .inl (cI, 4, .inl fl)), (q3, .inl (cI, 8, .inl (fun j => nI (gS j)))), (q4, .inl (cI, 8, .inl (fun j => nI (gX j)))), (q5, .inl (cI, 8, .inl (fun j => nI (gT j)))), (q6, .inl (cI, 2, .inl (fun j => nI (gC j)))), (q7, .inl (cI, 32, .inl (fun j => nI (gO j)))), (q8, .inl (cI, 32, .inl fD)), (q9, .inl (cI, 2, .inl (fun j => nI (gE j))))] s.heap := hP
  have hD : va_D A [(hm, .inr (3, [.int th, .int (nI nd), .ref q0, .ref q1, .int (nI mi), .int (nI ml), .ref q2, .ref q3, .ref q4, .ref q5, .ref q6, .ref q7, .ref q8, .ref q9, .int (nI sp), .int fa])), (q0, .inl (cI, 401, .inl fs)), (q1, .inl (cJ, 25664, .inr (.inl ft))), (q2, .inl (cI, 4, .inl fl)), (q3, .inl (cI, 8, .inl (fun j => nI (gS j)))), (q4, .inl (cI, 8, .inl (fun j => nI (gX j)))), (q5, .inl (cI, 8, .inl (fun j => nI (gT j)))), (q6, .inl (cI, 2, .inl (fun j => nI (gC j)))), (q7, .inl (cI, 32, .inl (fun j => nI (gO j)))), (q8, .inl (cI, 32, .inl fD)), (q9, .inl (cI, 2, .inl (fun j => nI (gE j))))] := hD
  have hl := lv_entry ([.ref hm, .int sd, .int (nI la), .int (nI lb)]) (n := 10) (Nat.le_of_ble_eq_true rfl)
  rw [lg_entry_eq]
  generalize (lg_sl ([.ref hm, .int sd, .int (nI la), .int (nI lb)]) ++ List.replicate (10 - (lg_sl ([.ref hm, .int sd, .int (nI la), .int (nI lb)])).length) Slot.unset).toArray = ls at hl ⊢
  have hl : lv_has ls 10 [(0, .ref hm), (1, .int sd), (2, .int (nI la)), (3, .int (nI lb))] := hl
  have hin3 : ∀ w ∈ wsX30, w ∈ wsX3_and := by decide +kernel
  have kf48 := hts (.fieldLink RX3 48 "SweepEqualModel" "nodes" "I") (by decide +kernel)
  have kf44 := hts (.fieldLink RX3 44 "SweepEqualModel" "thrown" "I") (by decide +kernel)
  have kf13 := hts (.fieldLink RX3 13 "SweepEqualModel" "tables" "[J") (by decide +kernel)
  have kf7 := hts (.fieldLink RX3 7 "SweepEqualModel" "sides" "[I") (by decide +kernel)
  refine lv_iload_n hx hb dX3_and_0 rfl (lv_at hl 1 rfl) ?_
  refine rd_S (As := [.int sd]) (rest := []) ⟨hx, hb, hml, hown, hts⟩ (c_X3_isSide l sd) (va_cwS 1 hts gX3_and_X3_isSide rfl rfl rfl (by decide +kernel) ⟨Nat.le_of_ble_eq_true rfl, Nat.le_of_ble_eq_true rfl⟩) preEq rfl hl.1 rfl (Nat.le_of_ble_eq_true rfl) dX3_and_1 ⟨by show _ ≤ _; simp only [headSpec]; omega, by show _ ≤ _; simp only [headSpec]; omega⟩ ?_
  refine tp_i (show zI (decide (sd = 0 ∨ sd = 1)) = nI 1 from zd_1 hs) ?_
  refine lv_if_eq (tgt := 27) hx hb dX3_and_4 (by decide) (fun hc => absurd hc (by decide)) (fun _ => ?_)
  refine lv_aload_n hx hb dX3_and_7 rfl (lv_at hl 0 rfl) ?_
  refine lv_iload_n hx hb dX3_and_8 rfl (lv_at hl 2 rfl) ?_
  refine rd_V (As := [.int (nI la)]) (rest := []) ⟨hx, hb, hml, hown, hts⟩ (c_X3_isLiteral l D cI cJ hm q0 q1 q2 q3 q4 q5 q6 q7 q8 q9 th nd fs ft mi ml fl gS gX gT gC gO fD gE sp fa (nI la)) (cwV 1 hts gX3_and_X3_isLiteral rfl rfl rfl (by decide +kernel) ⟨Nat.le_of_ble_eq_true rfl, Nat.le_of_ble_eq_true rfl⟩) (rd_pv (ci := 3) (q0 := 0) hK hP rfl rfl) rfl hl.1 rfl (Nat.le_of_ble_eq_true rfl) dX3_and_9 ⟨by show _ ≤ _; simp only [headSpec]; omega, by show _ ≤ _; simp only [headSpec]; omega⟩ ?_
  refine tp_i (show zI (decide (¬ nI la < 0 ∧ ¬ nI (2 * nd) ≤ nI la)) = nI 1 from lit_t h1 (by omega)) ?_
  refine lv_if_eq (tgt := 27) hx hb dX3_and_12 (by decide) (fun hc => absurd hc (by decide)) (fun _ => ?_)
  refine lv_aload_n hx hb dX3_and_15 rfl (lv_at hl 0 rfl) ?_
  refine lv_iload_n hx hb dX3_and_16 rfl (lv_at hl 3 rfl) ?_
  refine rd_V (As := [.int (nI lb)]) (rest := []) ⟨hx, hb, hml, hown, hts⟩ (c_X3_isLiteral l D cI cJ hm q0 q1 q2 q3 q4 q5 q6 q7 q8 q9 th nd fs ft mi ml fl gS gX gT gC gO fD gE sp fa (nI lb)) (cwV 1 hts gX3_and_X3_isLiteral rfl rfl rfl (by decide +kernel) ⟨Nat.le_of_ble_eq_true rfl, Nat.le_of_ble_eq_true rfl⟩) (rd_pv (ci := 3) (q0 := 0) hK hP rfl rfl) rfl hl.1 rfl (Nat.le_of_ble_eq_true rfl) dX3_and_17 ⟨by show _ ≤ _; simp only [headSpec]; omega, by show _ ≤ _; simp only [headSpec]; omega⟩ ?_
  refine tp_i (show zI (decide (¬ nI lb < 0 ∧ ¬ nI (2 * nd) ≤ nI lb)) = nI 1 from lit_t h2 (by omega)) ?_
  refine lv_if_eq (tgt := 27) hx hb dX3_and_20 (by decide) (fun hc => absurd hc (by decide)) (fun _ => ?_)
  refine lv_iconst (v := nI 1) hx hb dX3_and_23 (by decide) ?_
  refine lv_goto (tgt := 28) hx hb dX3_and_24 (by decide) ?_
  refine lv_istore (lv' := [(4, .int (nI 1)), (0, .ref hm), (1, .int sd), (2, .int (nI la)), (3, .int (nI lb))]) hx hb dX3_and_28 hl (by decide) rfl (fun ls hl => ?_)
  refine lv_aload_n hx hb dX3_and_30 rfl (lv_at hl 1 rfl) ?_
  refine lv_iload hx hb dX3_and_31 (lv_at hl 0 rfl) ?_
  refine lv_if_ne (tgt := 40) hx hb dX3_and_33 (by decide) (fun _ => ?_) (fun hc => absurd hc (by decide))
  refine lv_aload_n hx hb dX3_and_40 rfl (lv_at hl 1 rfl) ?_
  refine va_get (D := D) (ci := 3) (v := .int (nI nd)) (C := RX3) (T := TX3) (N := 16) hx hb hts hin3 hown hK hP 0 rfl rfl 1 (by decide) kf48 (fun _ h9 => h9) rfl dX3_and_41 ?_
  refine lv_sipush (v := nI 400) hx hb dX3_and_44 (by decide) ?_
  refine lv_icmp_ne (tgt := 54) hx hb dX3_and_47 (by decide) (fun hc => absurd ((nI_eq (by omega) (by omega)).mpr (by omega)) hc) (fun _ => ?_)
  refine lv_iconst (v := nI 2) hx hb dX3_and_50 (by decide) ?_
  refine lv_goto (tgt := 77) hx hb dX3_and_51 (by decide) ?_
  refine va_put (D := D) (ci := 3) (v := .int (nI 2)) (ty := .int) (C := RX3) (T := TX3) (N := 16) hx hb hts hin3 tyX3 tyX3_ok nmX3 hown hK hP hD hS 0 rfl rfl 0 (by decide) kf44 (fun _ h9 => h9) rfl (by decide +kernel) rfl rfl (Nat.le_of_ble_eq_true rfl) dX3_and_77 (fun H locs hP hD hS => ?_)
  have hP : va_P D vwCl [(hm, .inr (3, [.int (nI 2), .int (nI nd), .ref q0, .ref q1, .int (nI mi), .int (nI ml), .ref q2, .ref q3, .ref q4, .ref q5, .ref q6, .ref q7, .ref q8, .ref q9, .int (nI sp), .int fa])), (q0, .inl (cI, 401, .inl fs)), (q1, .inl (cJ, 25664, .inr (.inl ft))), (q2, .inl (cI, 4, .inl fl)), (q3, .inl (cI, 8, .inl (fun j => nI (gS j)))), (q4, .inl (cI, 8, .inl (fun j => nI (gX j)))), (q5, .inl (cI, 8, .inl (fun j => nI (gT j)))), (q6, .inl (cI, 2, .inl (fun j => nI (gC j)))), (q7, .inl (cI, 32, .inl (fun j => nI (gO j)))), (q8, .inl (cI, 32, .inl fD)), (q9, .inl (cI, 2, .inl (fun j => nI (gE j))))] H := hP
  have hD : va_D A [(hm, .inr (3, [.int (nI 2), .int (nI nd), .ref q0, .ref q1, .int (nI mi), .int (nI ml), .ref q2, .ref q3, .ref q4, .ref q5, .ref q6, .ref q7, .ref q8, .ref q9, .int (nI sp), .int fa])), (q0, .inl (cI, 401, .inl fs)), (q1, .inl (cJ, 25664, .inr (.inl ft))), (q2, .inl (cI, 4, .inl fl)), (q3, .inl (cI, 8, .inl (fun j => nI (gS j)))), (q4, .inl (cI, 8, .inl (fun j => nI (gX j)))), (q5, .inl (cI, 8, .inl (fun j => nI (gT j)))), (q6, .inl (cI, 2, .inl (fun j => nI (gC j)))), (q7, .inl (cI, 32, .inl (fun j => nI (gO j)))), (q8, .inl (cI, 32, .inl fD)), (q9, .inl (cI, 2, .inl (fun j => nI (gE j))))] := hD
  refine lv_aload_n hx hb dX3_and_80 rfl (lv_at hl 1 rfl) ?_
  refine va_get (D := D) (ci := 3) (v := .int (nI 2)) (C := RX3) (T := TX3) (N := 16) hx hb hts hin3 hown hK hP 0 rfl rfl 0 (by decide) kf44 (fun _ h9 => h9) rfl dX3_and_81 ?_
  refine lv_if_le (tgt := 89) hx hb dX3_and_84 (by decide) (fun hc => absurd hc (by decide)) (fun _ => ?_)
  refine lv_iconst (v := nI 0) hx hb dX3_and_87 (by decide) ?_
  exact wr_i (()) hx hb hr hlocks hP hD hS dX3_and_88 (rfl) (trivial)
set_option maxHeartbeats 4000000 in
set_option maxRecDepth 100000 in
/-- and: of the other side -/
theorem w_X3_andB3 (sd : Int32) (la lb : Nat) (hs : sd = 0 ∨ sd = 1) (h1 : la < 2 * nd) (h2 : lb < 2 * nd) (hnd : nd < 400) (hb0 : (¬ fs (la / 2) = -1 ∧ ¬ fs (la / 2) = sd) ∨ (¬ fs (lb / 2) = -1 ∧ ¬ fs (lb / 2) = sd)) (sz : Nat) : Met l yX3_and wsX3_and { frames := 1, cells := 0, slots := 0, locals := 22 } (wr_P D [(cI, .int), (cJ, .long)] (mW hm q0 q1 q2 q3 q4 q5 q6 q7 q8 q9 cI cJ th nd fs ft mi ml fl gS gX gT gC gO fD gE sp fa) sz tp [.ref hm, .int sd, .int (nI la), .int (nI lb)]) (wx (Su := Unit) D [(cI, .int), (cJ, .long)] (va_A (mW hm q0 q1 q2 q3 q4 q5 q6 q7 q8 q9 cI cJ th nd fs ft mi ml fl gS gX gT gC gO fD gE sp fa) sz) (fun _ => some (.int (nI 0))) (fun _ => True) (fun _ => mW hm q0 q1 q2 q3 q4 q5 q6 q7 q8 q9 cI cJ (nI 3) nd fs ft mi ml fl gS gX gT gC gO fD gE sp fa)) 0 0 (va_A (mW hm q0 q1 q2 q3 q4 q5 q6 q7 q8 q9 cI cJ th nd fs ft mi ml fl gS gX gT gC gO fD gE sp fa) sz) := by
  refine Met.ofW (cc := cX3_and) (maxL := 10) (ret := (some .int)) (by decide) rfl ?_
  intro p e s m args below meth c s₁ B hml hv
  obtain ⟨rfl, hsz, ⟨hP, hK, hD0⟩, hE⟩ := hv
  have hx := B.exec
  have hb := B.bytes
  have hr := B.returns
  have hts := atoms_spec (ws := wsX3_and) B.pre
  have hown : s.vm.findClass RX3 = some m.cls := findClass_of_methodNamed B.named
  have hlocks := B.notSynchronized
  subst hsz
  have hD := hD0.self (sz := s.heap.size)
  generalize hAe : va_A (mW hm q0 q1 q2 q3 q4 q5 q6 q7 q8 q9 cI cJ th nd fs ft mi ml fl gS gX gT gC gO fD gE sp fa) s.heap.size = A at hD hE ⊢
  have hA : ∀ q : Nat, s.heap.size ≤ q → A q := fun q h => by rw [← hAe]; exact Or.inr h
  have hS : va_S A s.heap s.heap [] := va_S.rf
  have hP : va_P D vwCl [(hm, .inr (3, [.int th, .int (nI nd), .ref q0, .ref q1, .int (nI mi), .int (nI ml), .ref q2, .ref q3, .ref q4, .ref q5, .ref q6, .ref q7, .ref q8, .ref q9, .int (nI sp), .int fa])), (q0, .inl (cI, 401, .inl fs)), (q1, .inl (cJ, 25664, .inr (.inl ft))), (q2, .inl (cI, 4, .inl fl)), (q3, .inl (cI, 8, .inl (fun j => nI (gS j)))), (q4, .inl (cI, 8, .inl (fun j => nI (gX j)))), (q5, .inl (cI, 8, .inl (fun j => nI (gT j)))), (q6, .inl (cI, 2, .inl (fun j => nI (gC j)))), (q7, .inl (cI, 32, .inl (fun j => nI (gO j)))), (q8, .inl (cI, 32, .inl fD)), (q9, .inl (cI, 2, .inl (fun j => nI (gE j))))] s.heap := hP
  have hD : va_D A [(hm, .inr (3, [.int th, .int (nI nd), .ref q0, .ref q1, .int (nI mi), .int (nI ml), .ref q2, .ref q3, .ref q4, .ref q5, .ref q6, .ref q7, .ref q8, .ref q9, .int (nI sp), .int fa])), (q0, .inl (cI, 401, .inl fs)), (q1, .inl (cJ, 25664, .inr (.inl ft))), (q2, .inl (cI, 4, .inl fl)), (q3, .inl (cI, 8, .inl (fun j => nI (gS j)))), (q4, .inl (cI, 8, .inl (fun j => nI (gX j)))), (q5, .inl (cI, 8, .inl (fun j => nI (gT j)))), (q6, .inl (cI, 2, .inl (fun j => nI (gC j)))), (q7, .inl (cI, 32, .inl (fun j => nI (gO j)))), (q8, .inl (cI, 32, .inl fD)), (q9, .inl (cI, 2, .inl (fun j => nI (gE j))))] := hD
  have hl := lv_entry ([.ref hm, .int sd, .int (nI la), .int (nI lb)]) (n := 10) (Nat.le_of_ble_eq_true rfl)
  rw [lg_entry_eq]
  generalize (lg_sl ([.ref hm, .int sd, .int (nI la), .int (nI lb)]) ++ List.replicate (10 - (lg_sl ([.ref hm, .int sd, .int (nI la), .int (nI lb)])).length) Slot.unset).toArray = ls at hl ⊢
  have hl : lv_has ls 10 [(0, .ref hm), (1, .int sd), (2, .int (nI la)), (3, .int (nI lb))] := hl
  have hin3 : ∀ w ∈ wsX30, w ∈ wsX3_and := by decide +kernel
  have kf48 := hts (.fieldLink RX3 48 "SweepEqualModel" "nodes" "I") (by decide +kernel)
  have kf44 := hts (.fieldLink RX3 44 "SweepEqualModel" "thrown" "I") (by decide +kernel)
  have kf13 := hts (.fieldLink RX3 13 "SweepEqualModel" "tables" "[J") (by decide +kernel)
  have kf7 := hts (.fieldLink RX3 7 "SweepEqualModel" "sides" "[I") (by decide +kernel)
  refine lv_iload_n hx hb dX3_and_0 rfl (lv_at hl 1 rfl) ?_
  refine rd_S (As := [.int sd]) (rest := []) ⟨hx, hb, hml, hown, hts⟩ (c_X3_isSide l sd) (va_cwS 1 hts gX3_and_X3_isSide rfl rfl rfl (by decide +kernel) ⟨Nat.le_of_ble_eq_true rfl, Nat.le_of_ble_eq_true rfl⟩) preEq rfl hl.1 rfl (Nat.le_of_ble_eq_true rfl) dX3_and_1 ⟨by show _ ≤ _; simp only [headSpec]; omega, by show _ ≤ _; simp only [headSpec]; omega⟩ ?_
  refine tp_i (show zI (decide (sd = 0 ∨ sd = 1)) = nI 1 from zd_1 hs) ?_
  refine lv_if_eq (tgt := 27) hx hb dX3_and_4 (by decide) (fun hc => absurd hc (by decide)) (fun _ => ?_)
  refine lv_aload_n hx hb dX3_and_7 rfl (lv_at hl 0 rfl) ?_
  refine lv_iload_n hx hb dX3_and_8 rfl (lv_at hl 2 rfl) ?_
  refine rd_V (As := [.int (nI la)]) (rest := []) ⟨hx, hb, hml, hown, hts⟩ (c_X3_isLiteral l D cI cJ hm q0 q1 q2 q3 q4 q5 q6 q7 q8 q9 th nd fs ft mi ml fl gS gX gT gC gO fD gE sp fa (nI la)) (cwV 1 hts gX3_and_X3_isLiteral rfl rfl rfl (by decide +kernel) ⟨Nat.le_of_ble_eq_true rfl, Nat.le_of_ble_eq_true rfl⟩) (rd_pv (ci := 3) (q0 := 0) hK hP rfl rfl) rfl hl.1 rfl (Nat.le_of_ble_eq_true rfl) dX3_and_9 ⟨by show _ ≤ _; simp only [headSpec]; omega, by show _ ≤ _; simp only [headSpec]; omega⟩ ?_
  refine tp_i (show zI (decide (¬ nI la < 0 ∧ ¬ nI (2 * nd) ≤ nI la)) = nI 1 from lit_t h1 (by omega)) ?_
  refine lv_if_eq (tgt := 27) hx hb dX3_and_12 (by decide) (fun hc => absurd hc (by decide)) (fun _ => ?_)
  refine lv_aload_n hx hb dX3_and_15 rfl (lv_at hl 0 rfl) ?_
  refine lv_iload_n hx hb dX3_and_16 rfl (lv_at hl 3 rfl) ?_
  refine rd_V (As := [.int (nI lb)]) (rest := []) ⟨hx, hb, hml, hown, hts⟩ (c_X3_isLiteral l D cI cJ hm q0 q1 q2 q3 q4 q5 q6 q7 q8 q9 th nd fs ft mi ml fl gS gX gT gC gO fD gE sp fa (nI lb)) (cwV 1 hts gX3_and_X3_isLiteral rfl rfl rfl (by decide +kernel) ⟨Nat.le_of_ble_eq_true rfl, Nat.le_of_ble_eq_true rfl⟩) (rd_pv (ci := 3) (q0 := 0) hK hP rfl rfl) rfl hl.1 rfl (Nat.le_of_ble_eq_true rfl) dX3_and_17 ⟨by show _ ≤ _; simp only [headSpec]; omega, by show _ ≤ _; simp only [headSpec]; omega⟩ ?_
  refine tp_i (show zI (decide (¬ nI lb < 0 ∧ ¬ nI (2 * nd) ≤ nI lb)) = nI 1 from lit_t h2 (by omega)) ?_
  refine lv_if_eq (tgt := 27) hx hb dX3_and_20 (by decide) (fun hc => absurd hc (by decide)) (fun _ => ?_)
  refine lv_iconst (v := nI 1) hx hb dX3_and_23 (by decide) ?_
  refine lv_goto (tgt := 28) hx hb dX3_and_24 (by decide) ?_
  refine lv_istore (lv' := [(4, .int (nI 1)), (0, .ref hm), (1, .int sd), (2, .int (nI la)), (3, .int (nI lb))]) hx hb dX3_and_28 hl (by decide) rfl (fun ls hl => ?_)
  refine lv_aload_n hx hb dX3_and_30 rfl (lv_at hl 1 rfl) ?_
  refine lv_iload hx hb dX3_and_31 (lv_at hl 0 rfl) ?_
  refine lv_if_ne (tgt := 40) hx hb dX3_and_33 (by decide) (fun _ => ?_) (fun hc => absurd hc (by decide))
  refine lv_aload_n hx hb dX3_and_40 rfl (lv_at hl 1 rfl) ?_
  refine va_get (D := D) (ci := 3) (v := .int (nI nd)) (C := RX3) (T := TX3) (N := 16) hx hb hts hin3 hown hK hP 0 rfl rfl 1 (by decide) kf48 (fun _ h9 => h9) rfl dX3_and_41 ?_
  refine lv_sipush (v := nI 400) hx hb dX3_and_44 (by decide) ?_
  refine lv_icmp_ne (tgt := 54) hx hb dX3_and_47 (by decide) (fun _ => ?_) (fun hc => absurd ((nI_eq (by omega) (by omega)).mp hc) (by omega))
  refine lv_aload_n hx hb dX3_and_54 rfl (lv_at hl 1 rfl) ?_
  refine lv_iload_n hx hb dX3_and_55 rfl (lv_at hl 2 rfl) ?_
  refine lv_iload_n hx hb dX3_and_56 rfl (lv_at hl 3 rfl) ?_
  refine rd_V (As := [.int sd, .int (nI la)]) (rest := [.ref hm]) ⟨hx, hb, hml, hown, hts⟩ (c_X3_isOther l D cI cJ hm q0 q1 q2 q3 q4 q5 q6 q7 q8 q9 th nd fs ft mi ml fl gS gX gT gC gO fD gE sp fa sd la (by omega)) (cwV 2 hts gX3_and_X3_isOther rfl rfl rfl (by decide +kernel) ⟨Nat.le_of_ble_eq_true rfl, Nat.le_of_ble_eq_true rfl⟩) (rd_pv (ci := 3) (q0 := 0) hK hP rfl rfl) rfl hl.1 rfl (Nat.le_of_ble_eq_true rfl) dX3_and_57 ⟨by show _ ≤ _; simp only [headSpec]; omega, by show _ ≤ _; simp only [headSpec]; omega⟩ ?_
  refine lv_if_ne (tgt := 72) hx hb dX3_and_60 (by decide) (fun c1 => ?_) (fun c1 => ?_)
  · refine lv_iconst (v := nI 3) hx hb dX3_and_72 (by decide) ?_
    refine lv_goto (tgt := 77) hx hb dX3_and_73 (by decide) ?_
    refine va_put (D := D) (ci := 3) (v := .int (nI 3)) (ty := .int) (C := RX3) (T := TX3) (N := 16) hx hb hts hin3 tyX3 tyX3_ok nmX3 hown hK hP hD hS 0 rfl rfl 0 (by decide) kf44 (fun _ h9 => h9) rfl (by decide +kernel) rfl rfl (Nat.le_of_ble_eq_true rfl) dX3_and_77 (fun H locs hP hD hS => ?_)
    have hP : va_P D vwCl [(hm, .inr (3, [.int (nI 3), .int (nI nd), .ref q0, .ref q1, .int (nI mi), .int (nI ml), .ref q2, .ref q3, .ref q4, .ref q5, .ref q6, .ref q7, .ref q8, .ref q9, .int (nI sp), .int fa])), (q0, .inl (cI, 401, .inl fs)), (q1, .inl (cJ, 25664, .inr (.inl ft))), (q2, .inl (cI, 4, .inl fl)), (q3, .inl (cI, 8, .inl (fun j => nI (gS j)))), (q4, .inl (cI, 8, .inl (fun j => nI (gX j)))), (q5, .inl (cI, 8, .inl (fun j => nI (gT j)))), (q6, .inl (cI, 2, .inl (fun j => nI (gC j)))), (q7, .inl (cI, 32, .inl (fun j => nI (gO j)))), (q8, .inl (cI, 32, .inl fD)), (q9, .inl (cI, 2, .inl (fun j => nI (gE j))))] H := hP
    have hD : va_D A [(hm, .inr (3, [.int (nI 3), .int (nI nd), .ref q0, .ref q1, .int (nI mi), .int (nI ml), .ref q2, .ref q3, .ref q4, .ref q5, .ref q6, .ref q7, .ref q8, .ref q9, .int (nI sp), .int fa])), (q0, .inl (cI, 401, .inl fs)), (q1, .inl (cJ, 25664, .inr (.inl ft))), (q2, .inl (cI, 4, .inl fl)), (q3, .inl (cI, 8, .inl (fun j => nI (gS j)))), (q4, .inl (cI, 8, .inl (fun j => nI (gX j)))), (q5, .inl (cI, 8, .inl (fun j => nI (gT j)))), (q6, .inl (cI, 2, .inl (fun j => nI (gC j)))), (q7, .inl (cI, 32, .inl (fun j => nI (gO j)))), (q8, .inl (cI, 32, .inl fD)), (q9, .inl (cI, 2, .inl (fun j => nI (gE j))))] := hD
    refine lv_aload_n hx hb dX3_and_80 rfl (lv_at hl 1 rfl) ?_
    refine va_get (D := D) (ci := 3) (v := .int (nI 3)) (C := RX3) (T := TX3) (N := 16) hx hb hts hin3 hown hK hP 0 rfl rfl 0 (by decide) kf44 (fun _ h9 => h9) rfl dX3_and_81 ?_
    refine lv_if_le (tgt := 89) hx hb dX3_and_84 (by decide) (fun hc => absurd hc (by decide)) (fun _ => ?_)
    refine lv_iconst (v := nI 0) hx hb dX3_and_87 (by decide) ?_
    exact wr_i (()) hx hb hr hlocks hP hD hS dX3_and_88 (rfl) (trivial)
  · refine lv_aload_n hx hb dX3_and_63 rfl (lv_at hl 1 rfl) ?_
    refine lv_iload_n hx hb dX3_and_64 rfl (lv_at hl 2 rfl) ?_
    refine lv_iload_n hx hb dX3_and_65 rfl (lv_at hl 4 rfl) ?_
    refine rd_V (As := [.int sd, .int (nI lb)]) (rest := [.ref hm]) ⟨hx, hb, hml, hown, hts⟩ (c_X3_isOther l D cI cJ hm q0 q1 q2 q3 q4 q5 q6 q7 q8 q9 th nd fs ft mi ml fl gS gX gT gC gO fD gE sp fa sd lb (by omega)) (cwV 2 hts gX3_and_X3_isOther rfl rfl rfl (by decide +kernel) ⟨Nat.le_of_ble_eq_true rfl, Nat.le_of_ble_eq_true rfl⟩) (rd_pv (ci := 3) (q0 := 0) hK hP rfl rfl) rfl hl.1 rfl (Nat.le_of_ble_eq_true rfl) dX3_and_66 ⟨by show _ ≤ _; simp only [headSpec]; omega, by show _ ≤ _; simp only [headSpec]; omega⟩ ?_
    refine lv_if_eq (tgt := 76) hx hb dX3_and_69 (by decide) (fun c2 => ?_) (fun c2 => ?_)
    · exact (hb0.elim (fun q => zd_f c1 q) (fun q => zd_f c2 q)).elim
    · refine lv_iconst (v := nI 3) hx hb dX3_and_72 (by decide) ?_
      refine lv_goto (tgt := 77) hx hb dX3_and_73 (by decide) ?_
      refine va_put (D := D) (ci := 3) (v := .int (nI 3)) (ty := .int) (C := RX3) (T := TX3) (N := 16) hx hb hts hin3 tyX3 tyX3_ok nmX3 hown hK hP hD hS 0 rfl rfl 0 (by decide) kf44 (fun _ h9 => h9) rfl (by decide +kernel) rfl rfl (Nat.le_of_ble_eq_true rfl) dX3_and_77 (fun H locs hP hD hS => ?_)
      have hP : va_P D vwCl [(hm, .inr (3, [.int (nI 3), .int (nI nd), .ref q0, .ref q1, .int (nI mi), .int (nI ml), .ref q2, .ref q3, .ref q4, .ref q5, .ref q6, .ref q7, .ref q8, .ref q9, .int (nI sp), .int fa])), (q0, .inl (cI, 401, .inl fs)), (q1, .inl (cJ, 25664, .inr (.inl ft))), (q2, .inl (cI, 4, .inl fl)), (q3, .inl (cI, 8, .inl (fun j => nI (gS j)))), (q4, .inl (cI, 8, .inl (fun j => nI (gX j)))), (q5, .inl (cI, 8, .inl (fun j => nI (gT j)))), (q6, .inl (cI, 2, .inl (fun j => nI (gC j)))), (q7, .inl (cI, 32, .inl (fun j => nI (gO j)))), (q8, .inl (cI, 32, .inl fD)), (q9, .inl (cI, 2, .inl (fun j => nI (gE j))))] H := hP
      have hD : va_D A [(hm, .inr (3, [.int (nI 3), .int (nI nd), .ref q0, .ref q1, .int (nI mi), .int (nI ml), .ref q2, .ref q3, .ref q4, .ref q5, .ref q6, .ref q7, .ref q8, .ref q9, .int (nI sp), .int fa])), (q0, .inl (cI, 401, .inl fs)), (q1, .inl (cJ, 25664, .inr (.inl ft))), (q2, .inl (cI, 4, .inl fl)), (q3, .inl (cI, 8, .inl (fun j => nI (gS j)))), (q4, .inl (cI, 8, .inl (fun j => nI (gX j)))), (q5, .inl (cI, 8, .inl (fun j => nI (gT j)))), (q6, .inl (cI, 2, .inl (fun j => nI (gC j)))), (q7, .inl (cI, 32, .inl (fun j => nI (gO j)))), (q8, .inl (cI, 32, .inl fD)), (q9, .inl (cI, 2, .inl (fun j => nI (gE j))))] := hD
      refine lv_aload_n hx hb dX3_and_80 rfl (lv_at hl 1 rfl) ?_
      refine va_get (D := D) (ci := 3) (v := .int (nI 3)) (C := RX3) (T := TX3) (N := 16) hx hb hts hin3 hown hK hP 0 rfl rfl 0 (by decide) kf44 (fun _ h9 => h9) rfl dX3_and_81 ?_
      refine lv_if_le (tgt := 89) hx hb dX3_and_84 (by decide) (fun hc => absurd hc (by decide)) (fun _ => ?_)
      refine lv_iconst (v := nI 0) hx hb dX3_and_87 (by decide) ?_
      exact wr_i (()) hx hb hr hlocks hP hD hS dX3_and_88 (rfl) (trivial)
set_option maxHeartbeats 4000000 in
set_option maxRecDepth 100000 in
/-- output: no such side or literal -/
theorem w_X3_outputB1 (sd x : Int32) (hb0 : ¬ (sd = 0 ∨ sd = 1) ∨ (x < 0 ∨ nI (2 * nd) ≤ x)) (sz : Nat) : Met l yX3_output wsX3_output { frames := 1, cells := 0, slots := 0, locals := 22 } (wr_P D [(cI, .int), (cJ, .long)] (mW hm q0 q1 q2 q3 q4 q5 q6 q7 q8 q9 cI cJ th nd fs ft mi ml fl gS gX gT gC gO fD gE sp fa) sz tp [.ref hm, .int sd, .int x]) (wx (Su := Unit) D [(cI, .int), (cJ, .long)] (va_A (mW hm q0 q1 q2 q3 q4 q5 q6 q7 q8 q9 cI cJ th nd fs ft mi ml fl gS gX gT gC gO fD gE sp fa) sz) (fun _ => some (.int (nI 0))) (fun _ => True) (fun _ => mW hm q0 q1 q2 q3 q4 q5 q6 q7 q8 q9 cI cJ (nI 1) nd fs ft mi ml fl gS gX gT gC gO fD gE sp fa)) 0 0 (va_A (mW hm q0 q1 q2 q3 q4 q5 q6 q7 q8 q9 cI cJ th nd fs ft mi ml fl gS gX gT gC gO fD gE sp fa) sz) := by
  refine Met.ofW (cc := cX3_output) (maxL := 4) (ret := (some .int)) (by decide) rfl ?_
  intro p e s m args below meth c s₁ B hml hv
  obtain ⟨rfl, hsz, ⟨hP, hK, hD0⟩, hE⟩ := hv
  have hx := B.exec
  have hb := B.bytes
  have hr := B.returns
  have hts := atoms_spec (ws := wsX3_output) B.pre
  have hown : s.vm.findClass RX3 = some m.cls := findClass_of_methodNamed B.named
  have hlocks := B.notSynchronized
  subst hsz
  have hD := hD0.self (sz := s.heap.size)
  generalize hAe : va_A (mW hm q0 q1 q2 q3 q4 q5 q6 q7 q8 q9 cI cJ th nd fs ft mi ml fl gS gX gT gC gO fD gE sp fa) s.heap.size = A at hD hE ⊢
  have hA : ∀ q : Nat, s.heap.size ≤ q → A q := fun q h => by rw [← hAe]; exact Or.inr h
  have hS : va_S A s.heap s.heap [] := va_S.rf
  have hP : va_P D vwCl [(hm, .inr (3, [.int th, .int (nI nd), .ref q0, .ref q1, .int (nI mi), .int (nI ml), .ref q2, .ref q3, .ref q4, .ref q5, .ref q6, .ref q7, .ref q8, .ref q9, .int (nI sp), .int fa])), (q0, .inl (cI, 401, .inl fs)), (q1, .inl (cJ, 25664, .inr (.inl ft))), (q2, .inl (cI, 4, .inl fl)), (q3, .inl (cI, 8, .inl (fun j => nI (gS j)))), (q4, .inl (cI, 8, .inl (fun j => nI (gX j)))), (q5, .inl (cI, 8, .inl (fun j => nI (gT j)))), (q6, .inl (cI, 2, .inl (fun j => nI (gC j)))), (q7, .inl (cI, 32, .inl (fun j => nI (gO j)))), (q8, .inl (cI, 32, .inl fD)), (q9, .inl (cI, 2, .inl (fun j => nI (gE j))))] s.heap := hP
  have hD : va_D A [(hm, .inr (3, [.int th, .int (nI nd), .ref q0, .ref q1, .int (nI mi), .int (nI ml), .ref q2, .ref q3, .ref q4, .ref q5, .ref q6, .ref q7, .ref q8, .ref q9, .int (nI sp), .int fa])), (q0, .inl (cI, 401, .inl fs)), (q1, .inl (cJ, 25664, .inr (.inl ft))), (q2, .inl (cI, 4, .inl fl)), (q3, .inl (cI, 8, .inl (fun j => nI (gS j)))), (q4, .inl (cI, 8, .inl (fun j => nI (gX j)))), (q5, .inl (cI, 8, .inl (fun j => nI (gT j)))), (q6, .inl (cI, 2, .inl (fun j => nI (gC j)))), (q7, .inl (cI, 32, .inl (fun j => nI (gO j)))), (q8, .inl (cI, 32, .inl fD)), (q9, .inl (cI, 2, .inl (fun j => nI (gE j))))] := hD
  have hl := lv_entry ([.ref hm, .int sd, .int x]) (n := 4) (Nat.le_of_ble_eq_true rfl)
  rw [lg_entry_eq]
  generalize (lg_sl ([.ref hm, .int sd, .int x]) ++ List.replicate (4 - (lg_sl ([.ref hm, .int sd, .int x])).length) Slot.unset).toArray = ls at hl ⊢
  have hl : lv_has ls 4 [(0, .ref hm), (1, .int sd), (2, .int x)] := hl
  have hin3 : ∀ w ∈ wsX30, w ∈ wsX3_output := by decide +kernel
  have kf29 := hts (.fieldLink RX3 29 "SweepEqualModel" "outputCounts" "[I") (by decide +kernel)
  have kf44 := hts (.fieldLink RX3 44 "SweepEqualModel" "thrown" "I") (by decide +kernel)
  have kf32 := hts (.fieldLink RX3 32 "SweepEqualModel" "outputs" "[I") (by decide +kernel)
  refine lv_iload_n hx hb dX3_output_0 rfl (lv_at hl 1 rfl) ?_
  refine rd_S (As := [.int sd]) (rest := []) ⟨hx, hb, hml, hown, hts⟩ (c_X3_isSide l sd) (va_cwS 1 hts gX3_output_X3_isSide rfl rfl rfl (by decide +kernel) ⟨Nat.le_of_ble_eq_true rfl, Nat.le_of_ble_eq_true rfl⟩) preEq rfl hl.1 rfl (Nat.le_of_ble_eq_true rfl) dX3_output_1 ⟨by show _ ≤ _; simp only [headSpec]; omega, by show _ ≤ _; simp only [headSpec]; omega⟩ ?_
  refine lv_if_eq (tgt := 19) hx hb dX3_output_4 (by decide) (fun c1 => ?_) (fun c1 => ?_)
  · refine lv_iconst (v := nI 0) hx hb dX3_output_19 (by decide) ?_
    refine lv_istore_n (lv' := [(3, .int (nI 0)), (0, .ref hm), (1, .int sd), (2, .int x)]) hx hb dX3_output_20 rfl hl (by decide) rfl (fun ls hl => ?_)
    refine lv_aload_n hx hb dX3_output_21 rfl (lv_at hl 1 rfl) ?_
    refine lv_iload_n hx hb dX3_output_22 rfl (lv_at hl 0 rfl) ?_
    refine lv_if_ne (tgt := 30) hx hb dX3_output_23 (by decide) (fun hc => absurd hc (by decide)) (fun _ => ?_)
    refine lv_iconst (v := nI 1) hx hb dX3_output_26 (by decide) ?_
    refine lv_goto (tgt := 59) hx hb dX3_output_27 (by decide) ?_
    refine va_put (D := D) (ci := 3) (v := .int (nI 1)) (ty := .int) (C := RX3) (T := TX3) (N := 16) hx hb hts hin3 tyX3 tyX3_ok nmX3 hown hK hP hD hS 0 rfl rfl 0 (by decide) kf44 (fun _ h9 => h9) rfl (by decide +kernel) rfl rfl (Nat.le_of_ble_eq_true rfl) dX3_output_59 (fun H locs hP hD hS => ?_)
    have hP : va_P D vwCl [(hm, .inr (3, [.int (nI 1), .int (nI nd), .ref q0, .ref q1, .int (nI mi), .int (nI ml), .ref q2, .ref q3, .ref q4, .ref q5, .ref q6, .ref q7, .ref q8, .ref q9, .int (nI sp), .int fa])), (q0, .inl (cI, 401, .inl fs)), (q1, .inl (cJ, 25664, .inr (.inl ft))), (q2, .inl (cI, 4, .inl fl)), (q3, .inl (cI, 8, .inl (fun j => nI (gS j)))), (q4, .inl (cI, 8, .inl (fun j => nI (gX j)))), (q5, .inl (cI, 8, .inl (fun j => nI (gT j)))), (q6, .inl (cI, 2, .inl (fun j => nI (gC j)))), (q7, .inl (cI, 32, .inl (fun j => nI (gO j)))), (q8, .inl (cI, 32, .inl fD)), (q9, .inl (cI, 2, .inl (fun j => nI (gE j))))] H := hP
    have hD : va_D A [(hm, .inr (3, [.int (nI 1), .int (nI nd), .ref q0, .ref q1, .int (nI mi), .int (nI ml), .ref q2, .ref q3, .ref q4, .ref q5, .ref q6, .ref q7, .ref q8, .ref q9, .int (nI sp), .int fa])), (q0, .inl (cI, 401, .inl fs)), (q1, .inl (cJ, 25664, .inr (.inl ft))), (q2, .inl (cI, 4, .inl fl)), (q3, .inl (cI, 8, .inl (fun j => nI (gS j)))), (q4, .inl (cI, 8, .inl (fun j => nI (gX j)))), (q5, .inl (cI, 8, .inl (fun j => nI (gT j)))), (q6, .inl (cI, 2, .inl (fun j => nI (gC j)))), (q7, .inl (cI, 32, .inl (fun j => nI (gO j)))), (q8, .inl (cI, 32, .inl fD)), (q9, .inl (cI, 2, .inl (fun j => nI (gE j))))] := hD
    refine lv_aload_n hx hb dX3_output_62 rfl (lv_at hl 1 rfl) ?_
    refine va_get (D := D) (ci := 3) (v := .int (nI 1)) (C := RX3) (T := TX3) (N := 16) hx hb hts hin3 hown hK hP 0 rfl rfl 0 (by decide) kf44 (fun _ h9 => h9) rfl dX3_output_63 ?_
    refine lv_if_le (tgt := 71) hx hb dX3_output_66 (by decide) (fun hc => absurd hc (by decide)) (fun _ => ?_)
    refine lv_iconst (v := nI 0) hx hb dX3_output_69 (by decide) ?_
    exact wr_i (()) hx hb hr hlocks hP hD hS dX3_output_70 (rfl) (trivial)
  · refine lv_aload_n hx hb dX3_output_7 rfl (lv_at hl 0 rfl) ?_
    refine lv_iload_n hx hb dX3_output_8 rfl (lv_at hl 2 rfl) ?_
    refine rd_V (As := [.int x]) (rest := []) ⟨hx, hb, hml, hown, hts⟩ (c_X3_isLiteral l D cI cJ hm q0 q1 q2 q3 q4 q5 q6 q7 q8 q9 th nd fs ft mi ml fl gS gX gT gC gO fD gE sp fa x) (cwV 1 hts gX3_output_X3_isLiteral rfl rfl rfl (by decide +kernel) ⟨Nat.le_of_ble_eq_true rfl, Nat.le_of_ble_eq_true rfl⟩) (rd_pv (ci := 3) (q0 := 0) hK hP rfl rfl) rfl hl.1 rfl (Nat.le_of_ble_eq_true rfl) dX3_output_9 ⟨by show _ ≤ _; simp only [headSpec]; omega, by show _ ≤ _; simp only [headSpec]; omega⟩ ?_
    refine lv_if_eq (tgt := 19) hx hb dX3_output_12 (by decide) (fun c2 => ?_) (fun c2 => ?_)
    · refine lv_iconst (v := nI 0) hx hb dX3_output_19 (by decide) ?_
      refine lv_istore_n (lv' := [(3, .int (nI 0)), (0, .ref hm), (1, .int sd), (2, .int x)]) hx hb dX3_output_20 rfl hl (by decide) rfl (fun ls hl => ?_)
      refine lv_aload_n hx hb dX3_output_21 rfl (lv_at hl 1 rfl) ?_
      refine lv_iload_n hx hb dX3_output_22 rfl (lv_at hl 0 rfl) ?_
      refine lv_if_ne (tgt := 30) hx hb dX3_output_23 (by decide) (fun hc => absurd hc (by decide)) (fun _ => ?_)
      refine lv_iconst (v := nI 1) hx hb dX3_output_26 (by decide) ?_
      refine lv_goto (tgt := 59) hx hb dX3_output_27 (by decide) ?_
      refine va_put (D := D) (ci := 3) (v := .int (nI 1)) (ty := .int) (C := RX3) (T := TX3) (N := 16) hx hb hts hin3 tyX3 tyX3_ok nmX3 hown hK hP hD hS 0 rfl rfl 0 (by decide) kf44 (fun _ h9 => h9) rfl (by decide +kernel) rfl rfl (Nat.le_of_ble_eq_true rfl) dX3_output_59 (fun H locs hP hD hS => ?_)
      have hP : va_P D vwCl [(hm, .inr (3, [.int (nI 1), .int (nI nd), .ref q0, .ref q1, .int (nI mi), .int (nI ml), .ref q2, .ref q3, .ref q4, .ref q5, .ref q6, .ref q7, .ref q8, .ref q9, .int (nI sp), .int fa])), (q0, .inl (cI, 401, .inl fs)), (q1, .inl (cJ, 25664, .inr (.inl ft))), (q2, .inl (cI, 4, .inl fl)), (q3, .inl (cI, 8, .inl (fun j => nI (gS j)))), (q4, .inl (cI, 8, .inl (fun j => nI (gX j)))), (q5, .inl (cI, 8, .inl (fun j => nI (gT j)))), (q6, .inl (cI, 2, .inl (fun j => nI (gC j)))), (q7, .inl (cI, 32, .inl (fun j => nI (gO j)))), (q8, .inl (cI, 32, .inl fD)), (q9, .inl (cI, 2, .inl (fun j => nI (gE j))))] H := hP
      have hD : va_D A [(hm, .inr (3, [.int (nI 1), .int (nI nd), .ref q0, .ref q1, .int (nI mi), .int (nI ml), .ref q2, .ref q3, .ref q4, .ref q5, .ref q6, .ref q7, .ref q8, .ref q9, .int (nI sp), .int fa])), (q0, .inl (cI, 401, .inl fs)), (q1, .inl (cJ, 25664, .inr (.inl ft))), (q2, .inl (cI, 4, .inl fl)), (q3, .inl (cI, 8, .inl (fun j => nI (gS j)))), (q4, .inl (cI, 8, .inl (fun j => nI (gX j)))), (q5, .inl (cI, 8, .inl (fun j => nI (gT j)))), (q6, .inl (cI, 2, .inl (fun j => nI (gC j)))), (q7, .inl (cI, 32, .inl (fun j => nI (gO j)))), (q8, .inl (cI, 32, .inl fD)), (q9, .inl (cI, 2, .inl (fun j => nI (gE j))))] := hD
      refine lv_aload_n hx hb dX3_output_62 rfl (lv_at hl 1 rfl) ?_
      refine va_get (D := D) (ci := 3) (v := .int (nI 1)) (C := RX3) (T := TX3) (N := 16) hx hb hts hin3 hown hK hP 0 rfl rfl 0 (by decide) kf44 (fun _ h9 => h9) rfl dX3_output_63 ?_
      refine lv_if_le (tgt := 71) hx hb dX3_output_66 (by decide) (fun hc => absurd hc (by decide)) (fun _ => ?_)
      refine lv_iconst (v := nI 0) hx hb dX3_output_69 (by decide) ?_
      exact wr_i (()) hx hb hr hlocks hP hD hS dX3_output_70 (rfl) (trivial)
    · exact (hb0.elim (fun q => q (zd_t c1)) (fun q => q.elim (zd_t c2).1 (zd_t c2).2)).elim
set_option maxHeartbeats 4000000 in
set_option maxRecDepth 100000 in
/-- output of side 0 -/
theorem w_X3_output0 (lit : Nat) (h1 : lit < 2 * nd) (hnd : nd ≤ 400) (h16 : gC 0 < 16) (ho : ¬ (¬ fs (lit / 2) = -1 ∧ ¬ fs (lit / 2) = nI 0)) (sz : Nat) : Met l yX3_output wsX3_output { frames := 1, cells := 0, slots := 0, locals := 22 } (wr_P D [(cI, .int), (cJ, .long)] (mW hm q0 q1 q2 q3 q4 q5 q6 q7 q8 q9 cI cJ th nd fs ft mi ml fl gS gX gT gC gO fD gE sp fa) sz tp [.ref hm, .int (nI 0), .int (nI lit)]) (wx (Su := Unit) D [(cI, .int), (cJ, .long)] (va_A (mW hm q0 q1 q2 q3 q4 q5 q6 q7 q8 q9 cI cJ th nd fs ft mi ml fl gS gX gT gC gO fD gE sp fa) sz) (fun _ => some (.int (nI (gC 0)))) (fun _ => True) (fun _ => mW hm q0 q1 q2 q3 q4 q5 q6 q7 q8 q9 cI cJ (nI 0) nd fs ft mi ml fl gS gX gT (va_up gC 0 (gC 0 + 1)) (va_up gO (gC 0) lit) fD gE sp fa)) 0 0 (va_A (mW hm q0 q1 q2 q3 q4 q5 q6 q7 q8 q9 cI cJ th nd fs ft mi ml fl gS gX gT gC gO fD gE sp fa) sz) := by
  refine Met.ofW (cc := cX3_output) (maxL := 4) (ret := (some .int)) (by decide) rfl ?_
  intro p e s m args below meth c s₁ B hml hv
  obtain ⟨rfl, hsz, ⟨hP, hK, hD0⟩, hE⟩ := hv
  have hx := B.exec
  have hb := B.bytes
  have hr := B.returns
  have hts := atoms_spec (ws := wsX3_output) B.pre
  have hown : s.vm.findClass RX3 = some m.cls := findClass_of_methodNamed B.named
  have hlocks := B.notSynchronized
  subst hsz
  have hD := hD0.self (sz := s.heap.size)
  generalize hAe : va_A (mW hm q0 q1 q2 q3 q4 q5 q6 q7 q8 q9 cI cJ th nd fs ft mi ml fl gS gX gT gC gO fD gE sp fa) s.heap.size = A at hD hE ⊢
  have hA : ∀ q : Nat, s.heap.size ≤ q → A q := fun q h => by rw [← hAe]; exact Or.inr h
  have hS : va_S A s.heap s.heap [] := va_S.rf
  have hP : va_P D vwCl [(hm, .inr (3, [.int th, .int (nI nd), .ref q0, .ref q1, .int (nI mi), .int (nI ml), .ref q2, .ref q3, .ref q4, .ref q5, .ref q6, .ref q7, .ref q8, .ref q9, .int (nI sp), .int fa])), (q0, .inl (cI, 401, .inl fs)), (q1, .inl (cJ, 25664, .inr (.inl ft))), (q2, .inl (cI, 4, .inl fl)), (q3, .inl (cI, 8, .inl (fun j => nI (gS j)))), (q4, .inl (cI, 8, .inl (fun j => nI (gX j)))), (q5, .inl (cI, 8, .inl (fun j => nI (gT j)))), (q6, .inl (cI, 2, .inl (fun j => nI (gC j)))), (q7, .inl (cI, 32, .inl (fun j => nI (gO j)))), (q8, .inl (cI, 32, .inl fD)), (q9, .inl (cI, 2, .inl (fun j => nI (gE j))))] s.heap := hP
  have hD : va_D A [(hm, .inr (3, [.int th, .int (nI nd), .ref q0, .ref q1, .int (nI mi), .int (nI ml), .ref q2, .ref q3, .ref q4, .ref q5, .ref q6, .ref q7, .ref q8, .ref q9, .int (nI sp), .int fa])), (q0, .inl (cI, 401, .inl fs)), (q1, .inl (cJ, 25664, .inr (.inl ft))), (q2, .inl (cI, 4, .inl fl)), (q3, .inl (cI, 8, .inl (fun j => nI (gS j)))), (q4, .inl (cI, 8, .inl (fun j => nI (gX j)))), (q5, .inl (cI, 8, .inl (fun j => nI (gT j)))), (q6, .inl (cI, 2, .inl (fun j => nI (gC j)))), (q7, .inl (cI, 32, .inl (fun j => nI (gO j)))), (q8, .inl (cI, 32, .inl fD)), (q9, .inl (cI, 2, .inl (fun j => nI (gE j))))] := hD
  have hl := lv_entry ([.ref hm, .int (nI 0), .int (nI lit)]) (n := 4) (Nat.le_of_ble_eq_true rfl)
  rw [lg_entry_eq]
  generalize (lg_sl ([.ref hm, .int (nI 0), .int (nI lit)]) ++ List.replicate (4 - (lg_sl ([.ref hm, .int (nI 0), .int (nI lit)])).length) Slot.unset).toArray = ls at hl ⊢
  have hl : lv_has ls 4 [(0, .ref hm), (1, .int (nI 0)), (2, .int (nI lit))] := hl
  have hin3 : ∀ w ∈ wsX30, w ∈ wsX3_output := by decide +kernel
  have kf29 := hts (.fieldLink RX3 29 "SweepEqualModel" "outputCounts" "[I") (by decide +kernel)
  have kf44 := hts (.fieldLink RX3 44 "SweepEqualModel" "thrown" "I") (by decide +kernel)
  have kf32 := hts (.fieldLink RX3 32 "SweepEqualModel" "outputs" "[I") (by decide +kernel)
  refine lv_iload_n hx hb dX3_output_0 rfl (lv_at hl 1 rfl) ?_
  refine rd_S (As := [.int (nI 0)]) (rest := []) ⟨hx, hb, hml, hown, hts⟩ (c_X3_isSide l (nI 0)) (va_cwS 1 hts gX3_output_X3_isSide rfl rfl rfl (by decide +kernel) ⟨Nat.le_of_ble_eq_true rfl, Nat.le_of_ble_eq_true rfl⟩) preEq rfl hl.1 rfl (Nat.le_of_ble_eq_true rfl) dX3_output_1 ⟨by show _ ≤ _; simp only [headSpec]; omega, by show _ ≤ _; simp only [headSpec]; omega⟩ ?_
  refine tp_i (show zI (decide (nI 0 = 0 ∨ nI 0 = 1)) = nI 1 from by decide) ?_
  refine lv_if_eq (tgt := 19) hx hb dX3_output_4 (by decide) (fun hc => absurd hc (by decide)) (fun _ => ?_)
  refine lv_aload_n hx hb dX3_output_7 rfl (lv_at hl 0 rfl) ?_
  refine lv_iload_n hx hb dX3_output_8 rfl (lv_at hl 2 rfl) ?_
  refine rd_V (As := [.int (nI lit)]) (rest := []) ⟨hx, hb, hml, hown, hts⟩ (c_X3_isLiteral l D cI cJ hm q0 q1 q2 q3 q4 q5 q6 q7 q8 q9 th nd fs ft mi ml fl gS gX gT gC gO fD gE sp fa (nI lit)) (cwV 1 hts gX3_output_X3_isLiteral rfl rfl rfl (by decide +kernel) ⟨Nat.le_of_ble_eq_true rfl, Nat.le_of_ble_eq_true rfl⟩) (rd_pv (ci := 3) (q0 := 0) hK hP rfl rfl) rfl hl.1 rfl (Nat.le_of_ble_eq_true rfl) dX3_output_9 ⟨by show _ ≤ _; simp only [headSpec]; omega, by show _ ≤ _; simp only [headSpec]; omega⟩ ?_
  refine tp_i (show zI (decide (¬ nI lit < 0 ∧ ¬ nI (2 * nd) ≤ nI lit)) = nI 1 from lit_t h1 (by omega)) ?_
  refine lv_if_eq (tgt := 19) hx hb dX3_output_12 (by decide) (fun hc => absurd hc (by decide)) (fun _ => ?_)
  refine lv_iconst (v := nI 1) hx hb dX3_output_15 (by decide) ?_
  refine lv_goto (tgt := 20) hx hb dX3_output_16 (by decide) ?_
  refine lv_istore_n (lv' := [(3, .int (nI 1)), (0, .ref hm), (1, .int (nI 0)), (2, .int (nI lit))]) hx hb dX3_output_20 rfl hl (by decide) rfl (fun ls hl => ?_)
  refine lv_aload_n hx hb dX3_output_21 rfl (lv_at hl 1 rfl) ?_
  refine lv_iload_n hx hb dX3_output_22 rfl (lv_at hl 0 rfl) ?_
  refine lv_if_ne (tgt := 30) hx hb dX3_output_23 (by decide) (fun _ => ?_) (fun hc => absurd hc (by decide))
  refine lv_aload_n hx hb dX3_output_30 rfl (lv_at hl 1 rfl) ?_
  refine va_get (D := D) (ci := 3) (v := .ref q6) (C := RX3) (T := TX3) (N := 16) hx hb hts hin3 hown hK hP 0 rfl rfl 10 (by decide) kf29 (fun _ h9 => h9) rfl dX3_output_31 ?_
  refine lv_iload_n hx hb dX3_output_34 rfl (lv_at hl 2 rfl) ?_
  refine va_iald hx hb hK hP 7 0 rfl rfl (vp_in_nI (by omega) (by omega)) dX3_output_35 ?_
  refine tp_i (show (fun j => nI (gC j)) (nI 0).toNatClampNeg = nI (gC 0) from congrArg (fun j => nI (gC j)) (nI_clamp (by omega))) ?_
  refine lv_bipush (v := nI 16) hx hb dX3_output_36 (by decide) ?_
  refine lv_icmp_ne (tgt := 45) hx hb dX3_output_38 (by decide) (fun _ => ?_) (fun hc => absurd ((nI_eq (by omega) (by omega)).mp hc) (by omega))
  refine lv_aload_n hx hb dX3_output_45 rfl (lv_at hl 1 rfl) ?_
  refine lv_iload_n hx hb dX3_output_46 rfl (lv_at hl 2 rfl) ?_
  refine lv_iload_n hx hb dX3_output_47 rfl (lv_at hl 3 rfl) ?_
  refine rd_V (As := [.int (nI 0), .int (nI lit)]) (rest := [.ref hm]) ⟨hx, hb, hml, hown, hts⟩ (c_X3_isOther l D cI cJ hm q0 q1 q2 q3 q4 q5 q6 q7 q8 q9 th nd fs ft mi ml fl gS gX gT gC gO fD gE sp fa (nI 0) lit (by omega)) (cwV 2 hts gX3_output_X3_isOther rfl rfl rfl (by decide +kernel) ⟨Nat.le_of_ble_eq_true rfl, Nat.le_of_ble_eq_true rfl⟩) (rd_pv (ci := 3) (q0 := 0) hK hP rfl rfl) rfl hl.1 rfl (Nat.le_of_ble_eq_true rfl) dX3_output_48 ⟨by show _ ≤ _; simp only [headSpec]; omega, by show _ ≤ _; simp only [headSpec]; omega⟩ ?_
  refine tp_i (show zI (decide (¬ fs (lit / 2) = -1 ∧ ¬ fs (lit / 2) = nI 0)) = nI 0 from zd_0 ho) ?_
  refine lv_if_eq (tgt := 58) hx hb dX3_output_51 (by decide) (fun _ => ?_) (fun hc => absurd hc (by decide))
  refine lv_iconst (v := nI 0) hx hb dX3_output_58 (by decide) ?_
  refine va_put (D := D) (ci := 3) (v := .int (nI 0)) (ty := .int) (C := RX3) (T := TX3) (N := 16) hx hb hts hin3 tyX3 tyX3_ok nmX3 hown hK hP hD hS 0 rfl rfl 0 (by decide) kf44 (fun _ h9 => h9) rfl (by decide +kernel) rfl rfl (Nat.le_of_ble_eq_true rfl) dX3_output_59 (fun H locs hP hD hS => ?_)
  have hP : va_P D vwCl [(hm, .inr (3, [.int (nI 0), .int (nI nd), .ref q0, .ref q1, .int (nI mi), .int (nI ml), .ref q2, .ref q3, .ref q4, .ref q5, .ref q6, .ref q7, .ref q8, .ref q9, .int (nI sp), .int fa])), (q0, .inl (cI, 401, .inl fs)), (q1, .inl (cJ, 25664, .inr (.inl ft))), (q2, .inl (cI, 4, .inl fl)), (q3, .inl (cI, 8, .inl (fun j => nI (gS j)))), (q4, .inl (cI, 8, .inl (fun j => nI (gX j)))), (q5, .inl (cI, 8, .inl (fun j => nI (gT j)))), (q6, .inl (cI, 2, .inl (fun j => nI (gC j)))), (q7, .inl (cI, 32, .inl (fun j => nI (gO j)))), (q8, .inl (cI, 32, .inl fD)), (q9, .inl (cI, 2, .inl (fun j => nI (gE j))))] H := hP
  have hD : va_D A [(hm, .inr (3, [.int (nI 0), .int (nI nd), .ref q0, .ref q1, .int (nI mi), .int (nI ml), .ref q2, .ref q3, .ref q4, .ref q5, .ref q6, .ref q7, .ref q8, .ref q9, .int (nI sp), .int fa])), (q0, .inl (cI, 401, .inl fs)), (q1, .inl (cJ, 25664, .inr (.inl ft))), (q2, .inl (cI, 4, .inl fl)), (q3, .inl (cI, 8, .inl (fun j => nI (gS j)))), (q4, .inl (cI, 8, .inl (fun j => nI (gX j)))), (q5, .inl (cI, 8, .inl (fun j => nI (gT j)))), (q6, .inl (cI, 2, .inl (fun j => nI (gC j)))), (q7, .inl (cI, 32, .inl (fun j => nI (gO j)))), (q8, .inl (cI, 32, .inl fD)), (q9, .inl (cI, 2, .inl (fun j => nI (gE j))))] := hD
  refine lv_aload_n hx hb dX3_output_62 rfl (lv_at hl 1 rfl) ?_
  refine va_get (D := D) (ci := 3) (v := .int (nI 0)) (C := RX3) (T := TX3) (N := 16) hx hb hts hin3 hown hK hP 0 rfl rfl 0 (by decide) kf44 (fun _ h9 => h9) rfl dX3_output_63 ?_
  refine lv_if_le (tgt := 71) hx hb dX3_output_66 (by decide) (fun _ => ?_) (fun hc => absurd hc (by decide))
  refine lv_aload_n hx hb dX3_output_71 rfl (lv_at hl 1 rfl) ?_
  refine va_get (D := D) (ci := 3) (v := .ref q7) (C := RX3) (T := TX3) (N := 16) hx hb hts hin3 hown hK hP 0 rfl rfl 11 (by decide) kf32 (fun _ h9 => h9) rfl dX3_output_72 ?_
  refine lv_bipush (v := nI 16) hx hb dX3_output_75 (by decide) ?_
  refine lv_iload_n hx hb dX3_output_77 rfl (lv_at hl 2 rfl) ?_
  refine lv_imul hx hb dX3_output_78 ?_
  refine tp_i (show (nI 16) * (nI 0) = nI 0 from by decide) ?_
  refine lv_aload_n hx hb dX3_output_79 rfl (lv_at hl 1 rfl) ?_
  refine va_get (D := D) (ci := 3) (v := .ref q6) (C := RX3) (T := TX3) (N := 16) hx hb hts hin3 hown hK hP 0 rfl rfl 10 (by decide) kf29 (fun _ h9 => h9) rfl dX3_output_80 ?_
  refine lv_iload_n hx hb dX3_output_83 rfl (lv_at hl 2 rfl) ?_
  refine va_iald hx hb hK hP 7 0 rfl rfl (vp_in_nI (by omega) (by omega)) dX3_output_84 ?_
  refine tp_i (show (fun j => nI (gC j)) (nI 0).toNatClampNeg = nI (gC 0) from congrArg (fun j => nI (gC j)) (nI_clamp (by omega))) ?_
  refine lv_iadd hx hb dX3_output_85 ?_
  refine tp_i (show (nI 0) + (nI (gC 0)) = nI (gC 0) from by rw [nI_add, Nat.zero_add]) ?_
  refine lv_iload_n hx hb dX3_output_86 rfl (lv_at hl 3 rfl) ?_
  refine va_iast hx hb hK hP hD hS 8 0 rfl rfl (vp_in_nI (by omega) (by omega)) dX3_output_87 (fun H locs hP hD hS => ?_)
  have hP : va_P D vwCl [(hm, .inr (3, [.int (nI 0), .int (nI nd), .ref q0, .ref q1, .int (nI mi), .int (nI ml), .ref q2, .ref q3, .ref q4, .ref q5, .ref q6, .ref q7, .ref q8, .ref q9, .int (nI sp), .int fa])), (q0, .inl (cI, 401, .inl fs)), (q1, .inl (cJ, 25664, .inr (.inl ft))), (q2, .inl (cI, 4, .inl fl)), (q3, .inl (cI, 8, .inl (fun j => nI (gS j)))), (q4, .inl (cI, 8, .inl (fun j => nI (gX j)))), (q5, .inl (cI, 8, .inl (fun j => nI (gT j)))), (q6, .inl (cI, 2, .inl (fun j => nI (gC j)))), (q7, .inl (cI, 32, .inl (upd (fun j => nI (gO j)) (nI (gC 0)).toNatClampNeg (nI lit)))), (q8, .inl (cI, 32, .inl fD)), (q9, .inl (cI, 2, .inl (fun j => nI (gE j))))] H := hP
  have hD : va_D A [(hm, .inr (3, [.int (nI 0), .int (nI nd), .ref q0, .ref q1, .int (nI mi), .int (nI ml), .ref q2, .ref q3, .ref q4, .ref q5, .ref q6, .ref q7, .ref q8, .ref q9, .int (nI sp), .int fa])), (q0, .inl (cI, 401, .inl fs)), (q1, .inl (cJ, 25664, .inr (.inl ft))), (q2, .inl (cI, 4, .inl fl)), (q3, .inl (cI, 8, .inl (fun j => nI (gS j)))), (q4, .inl (cI, 8, .inl (fun j => nI (gX j)))), (q5, .inl (cI, 8, .inl (fun j => nI (gT j)))), (q6, .inl (cI, 2, .inl (fun j => nI (gC j)))), (q7, .inl (cI, 32, .inl (upd (fun j => nI (gO j)) (nI (gC 0)).toNatClampNeg (nI lit)))), (q8, .inl (cI, 32, .inl fD)), (q9, .inl (cI, 2, .inl (fun j => nI (gE j))))] := hD
  rw [show upd (fun j => nI (gO j)) (nI (gC 0)).toNatClampNeg (nI lit) = fun j => nI ((va_up gO (gC 0) lit) j) from upN _ (by omega)] at hP hD
  refine lv_aload_n hx hb dX3_output_88 rfl (lv_at hl 1 rfl) ?_
  refine va_get (D := D) (ci := 3) (v := .ref q6) (C := RX3) (T := TX3) (N := 16) hx hb hts hin3 hown hK hP 0 rfl rfl 10 (by decide) kf29 (fun _ h9 => h9) rfl dX3_output_89 ?_
  refine lv_iload_n hx hb dX3_output_92 rfl (lv_at hl 2 rfl) ?_
  refine lv_dup2_11 hx hb dX3_output_93 rfl rfl ?_
  refine va_iald hx hb hK hP 7 0 rfl rfl (vp_in_nI (by omega) (by omega)) dX3_output_94 ?_
  refine tp_i (show (fun j => nI (gC j)) (nI 0).toNatClampNeg = nI (gC 0) from congrArg (fun j => nI (gC j)) (nI_clamp (by omega))) ?_
  refine lv_iconst (v := nI 1) hx hb dX3_output_95 (by decide) ?_
  refine lv_iadd hx hb dX3_output_96 ?_
  refine tp_i (show (nI (gC 0)) + (nI 1) = nI (gC 0 + 1) from nI_add _ _) ?_
  refine va_iast hx hb hK hP hD hS 7 0 rfl rfl (vp_in_nI (by omega) (by omega)) dX3_output_97 (fun H locs hP hD hS => ?_)
  have hP : va_P D vwCl [(hm, .inr (3, [.int (nI 0), .int (nI nd), .ref q0, .ref q1, .int (nI mi), .int (nI ml), .ref q2, .ref q3, .ref q4, .ref q5, .ref q6, .ref q7, .ref q8, .ref q9, .int (nI sp), .int fa])), (q0, .inl (cI, 401, .inl fs)), (q1, .inl (cJ, 25664, .inr (.inl ft))), (q2, .inl (cI, 4, .inl fl)), (q3, .inl (cI, 8, .inl (fun j => nI (gS j)))), (q4, .inl (cI, 8, .inl (fun j => nI (gX j)))), (q5, .inl (cI, 8, .inl (fun j => nI (gT j)))), (q6, .inl (cI, 2, .inl (upd (fun j => nI (gC j)) (nI 0).toNatClampNeg (nI (gC 0 + 1))))), (q7, .inl (cI, 32, .inl (fun j => nI ((va_up gO (gC 0) lit) j)))), (q8, .inl (cI, 32, .inl fD)), (q9, .inl (cI, 2, .inl (fun j => nI (gE j))))] H := hP
  have hD : va_D A [(hm, .inr (3, [.int (nI 0), .int (nI nd), .ref q0, .ref q1, .int (nI mi), .int (nI ml), .ref q2, .ref q3, .ref q4, .ref q5, .ref q6, .ref q7, .ref q8, .ref q9, .int (nI sp), .int fa])), (q0, .inl (cI, 401, .inl fs)), (q1, .inl (cJ, 25664, .inr (.inl ft))), (q2, .inl (cI, 4, .inl fl)), (q3, .inl (cI, 8, .inl (fun j => nI (gS j)))), (q4, .inl (cI, 8, .inl (fun j => nI (gX j)))), (q5, .inl (cI, 8, .inl (fun j => nI (gT j)))), (q6, .inl (cI, 2, .inl (upd (fun j => nI (gC j)) (nI 0).toNatClampNeg (nI (gC 0 + 1))))), (q7, .inl (cI, 32, .inl (fun j => nI ((va_up gO (gC 0) lit) j)))), (q8, .inl (cI, 32, .inl fD)), (q9, .inl (cI, 2, .inl (fun j => nI (gE j))))] := hD
  rw [show upd (fun j => nI (gC j)) (nI 0).toNatClampNeg (nI (gC 0 + 1)) = fun j => nI ((va_up gC 0 (gC 0 + 1)) j) from upN _ (by omega)] at hP hD
  refine lv_aload_n hx hb dX3_output_98 rfl (lv_at hl 1 rfl) ?_
  refine va_get (D := D) (ci := 3) (v := .ref q6) (C := RX3) (T := TX3) (N := 16) hx hb hts hin3 hown hK hP 0 rfl rfl 10 (by decide) kf29 (fun _ h9 => h9) rfl dX3_output_99 ?_
  refine lv_iload_n hx hb dX3_output_102 rfl (lv_at hl 2 rfl) ?_
  refine va_iald hx hb hK hP 7 0 rfl rfl (vp_in_nI (by omega) (by omega)) dX3_output_103 ?_
  refine tp_i (show (fun j => nI ((va_up gC 0 (gC 0 + 1)) j)) (nI 0).toNatClampNeg = nI ((va_up gC 0 (gC 0 + 1)) 0) from congrArg (fun j => nI ((va_up gC 0 (gC 0 + 1)) j)) (nI_clamp (by omega))) ?_
  refine lv_iconst (v := nI 1) hx hb dX3_output_104 (by decide) ?_
  refine lv_isub hx hb dX3_output_105 ?_
  refine tp_i (show (nI ((va_up gC 0 (gC 0 + 1)) 0)) - (nI 1) = nI (gC 0) from by rw [show va_up gC 0 (gC 0 + 1) 0 = gC 0 + 1 from if_pos rfl]; exact (pk_sub (by omega)).trans (congrArg nI (by omega))) ?_
  exact wr_i (()) hx hb hr hlocks hP hD hS dX3_output_106 (rfl) (trivial)
set_option maxHeartbeats 4000000 in
set_option maxRecDepth 100000 in
/-- output: there are 16 -/
theorem w_X3_outputB2_0 (lit : Nat) (h1 : lit < 2 * nd) (hnd : nd ≤ 400) (h16 : gC 0 = 16) (sz : Nat) : Met l yX3_output wsX3_output { frames := 1, cells := 0, slots := 0, locals := 22 } (wr_P D [(cI, .int), (cJ, .long)] (mW hm q0 q1 q2 q3 q4 q5 q6 q7 q8 q9 cI cJ th nd fs ft mi ml fl gS gX gT gC gO fD gE sp fa) sz tp [.ref hm, .int (nI 0), .int (nI lit)]) (wx (Su := Unit) D [(cI, .int), (cJ, .long)] (va_A (mW hm q0 q1 q2 q3 q4 q5 q6 q7 q8 q9 cI cJ th nd fs ft mi ml fl gS gX gT gC gO fD gE sp fa) sz) (fun _ => some (.int (nI 0))) (fun _ => True) (fun _ => mW hm q0 q1 q2 q3 q4 q5 q6 q7 q8 q9 cI cJ (nI 2) nd fs ft mi ml fl gS gX gT gC gO fD gE sp fa)) 0 0 (va_A (mW hm q0 q1 q2 q3 q4 q5 q6 q7 q8 q9 cI cJ th nd fs ft mi ml fl gS gX gT gC gO fD gE sp fa) sz) := by
  refine Met.ofW (cc := cX3_output) (maxL := 4) (ret := (some .int)) (by decide) rfl ?_
  intro p e s m args below meth c s₁ B hml hv
  obtain ⟨rfl, hsz, ⟨hP, hK, hD0⟩, hE⟩ := hv
  have hx := B.exec
  have hb := B.bytes
  have hr := B.returns
  have hts := atoms_spec (ws := wsX3_output) B.pre
  have hown : s.vm.findClass RX3 = some m.cls := findClass_of_methodNamed B.named
  have hlocks := B.notSynchronized
  subst hsz
  have hD := hD0.self (sz := s.heap.size)
  generalize hAe : va_A (mW hm q0 q1 q2 q3 q4 q5 q6 q7 q8 q9 cI cJ th nd fs ft mi ml fl gS gX gT gC gO fD gE sp fa) s.heap.size = A at hD hE ⊢
  have hA : ∀ q : Nat, s.heap.size ≤ q → A q := fun q h => by rw [← hAe]; exact Or.inr h
  have hS : va_S A s.heap s.heap [] := va_S.rf
  have hP : va_P D vwCl [(hm, .inr (3, [.int th, .int (nI nd), .ref q0, .ref q1, .int (nI mi), .int (nI ml), .ref q2, .ref q3, .ref q4, .ref q5, .ref q6, .ref q7, .ref q8, .ref q9, .int (nI sp), .int fa])), (q0, .inl (cI, 401, .inl fs)), (q1, .inl (cJ, 25664, .inr (.inl ft))), (q2, .inl (cI, 4, .inl fl)), (q3, .inl (cI, 8, .inl (fun j => nI (gS j)))), (q4, .inl (cI, 8, .inl (fun j => nI (gX j)))), (q5, .inl (cI, 8, .inl (fun j => nI (gT j)))), (q6, .inl (cI, 2, .inl (fun j => nI (gC j)))), (q7, .inl (cI, 32, .inl (fun j => nI (gO j)))), (q8, .inl (cI, 32, .inl fD)), (q9, .inl (cI, 2, .inl (fun j => nI (gE j))))] s.heap := hP
  have hD : va_D A [(hm, .inr (3, [.int th, .int (nI nd), .ref q0, .ref q1, .int (nI mi), .int (nI ml), .ref q2, .ref q3, .ref q4, .ref q5, .ref q6, .ref q7, .ref q8, .ref q9, .int (nI sp), .int fa])), (q0, .inl (cI, 401, .inl fs)), (q1, .inl (cJ, 25664, .inr (.inl ft))), (q2, .inl (cI, 4, .inl fl)), (q3, .inl (cI, 8, .inl (fun j => nI (gS j)))), (q4, .inl (cI, 8, .inl (fun j => nI (gX j)))), (q5, .inl (cI, 8, .inl (fun j => nI (gT j)))), (q6, .inl (cI, 2, .inl (fun j => nI (gC j)))), (q7, .inl (cI, 32, .inl (fun j => nI (gO j)))), (q8, .inl (cI, 32, .inl fD)), (q9, .inl (cI, 2, .inl (fun j => nI (gE j))))] := hD
  have hl := lv_entry ([.ref hm, .int (nI 0), .int (nI lit)]) (n := 4) (Nat.le_of_ble_eq_true rfl)
  rw [lg_entry_eq]
  generalize (lg_sl ([.ref hm, .int (nI 0), .int (nI lit)]) ++ List.replicate (4 - (lg_sl ([.ref hm, .int (nI 0), .int (nI lit)])).length) Slot.unset).toArray = ls at hl ⊢
  have hl : lv_has ls 4 [(0, .ref hm), (1, .int (nI 0)), (2, .int (nI lit))] := hl
  have hin3 : ∀ w ∈ wsX30, w ∈ wsX3_output := by decide +kernel
  have kf29 := hts (.fieldLink RX3 29 "SweepEqualModel" "outputCounts" "[I") (by decide +kernel)
  have kf44 := hts (.fieldLink RX3 44 "SweepEqualModel" "thrown" "I") (by decide +kernel)
  have kf32 := hts (.fieldLink RX3 32 "SweepEqualModel" "outputs" "[I") (by decide +kernel)
  refine lv_iload_n hx hb dX3_output_0 rfl (lv_at hl 1 rfl) ?_
  refine rd_S (As := [.int (nI 0)]) (rest := []) ⟨hx, hb, hml, hown, hts⟩ (c_X3_isSide l (nI 0)) (va_cwS 1 hts gX3_output_X3_isSide rfl rfl rfl (by decide +kernel) ⟨Nat.le_of_ble_eq_true rfl, Nat.le_of_ble_eq_true rfl⟩) preEq rfl hl.1 rfl (Nat.le_of_ble_eq_true rfl) dX3_output_1 ⟨by show _ ≤ _; simp only [headSpec]; omega, by show _ ≤ _; simp only [headSpec]; omega⟩ ?_
  refine tp_i (show zI (decide (nI 0 = 0 ∨ nI 0 = 1)) = nI 1 from by decide) ?_
  refine lv_if_eq (tgt := 19) hx hb dX3_output_4 (by decide) (fun hc => absurd hc (by decide)) (fun _ => ?_)
  refine lv_aload_n hx hb dX3_output_7 rfl (lv_at hl 0 rfl) ?_
  refine lv_iload_n hx hb dX3_output_8 rfl (lv_at hl 2 rfl) ?_
  refine rd_V (As := [.int (nI lit)]) (rest := []) ⟨hx, hb, hml, hown, hts⟩ (c_X3_isLiteral l D cI cJ hm q0 q1 q2 q3 q4 q5 q6 q7 q8 q9 th nd fs ft mi ml fl gS gX gT gC gO fD gE sp fa (nI lit)) (cwV 1 hts gX3_output_X3_isLiteral rfl rfl rfl (by decide +kernel) ⟨Nat.le_of_ble_eq_true rfl, Nat.le_of_ble_eq_true rfl⟩) (rd_pv (ci := 3) (q0 := 0) hK hP rfl rfl) rfl hl.1 rfl (Nat.le_of_ble_eq_true rfl) dX3_output_9 ⟨by show _ ≤ _; simp only [headSpec]; omega, by show _ ≤ _; simp only [headSpec]; omega⟩ ?_
  refine tp_i (show zI (decide (¬ nI lit < 0 ∧ ¬ nI (2 * nd) ≤ nI lit)) = nI 1 from lit_t h1 (by omega)) ?_
  refine lv_if_eq (tgt := 19) hx hb dX3_output_12 (by decide) (fun hc => absurd hc (by decide)) (fun _ => ?_)
  refine lv_iconst (v := nI 1) hx hb dX3_output_15 (by decide) ?_
  refine lv_goto (tgt := 20) hx hb dX3_output_16 (by decide) ?_
  refine lv_istore_n (lv' := [(3, .int (nI 1)), (0, .ref hm), (1, .int (nI 0)), (2, .int (nI lit))]) hx hb dX3_output_20 rfl hl (by decide) rfl (fun ls hl => ?_)
  refine lv_aload_n hx hb dX3_output_21 rfl (lv_at hl 1 rfl) ?_
  refine lv_iload_n hx hb dX3_output_22 rfl (lv_at hl 0 rfl) ?_
  refine lv_if_ne (tgt := 30) hx hb dX3_output_23 (by decide) (fun _ => ?_) (fun hc => absurd hc (by decide))
  refine lv_aload_n hx hb dX3_output_30 rfl (lv_at hl 1 rfl) ?_
  refine va_get (D := D) (ci := 3) (v := .ref q6) (C := RX3) (T := TX3) (N := 16) hx hb hts hin3 hown hK hP 0 rfl rfl 10 (by decide) kf29 (fun _ h9 => h9) rfl dX3_output_31 ?_
  refine lv_iload_n hx hb dX3_output_34 rfl (lv_at hl 2 rfl) ?_
  refine va_iald hx hb hK hP 7 0 rfl rfl (vp_in_nI (by omega) (by omega)) dX3_output_35 ?_
  refine tp_i (show (fun j => nI (gC j)) (nI 0).toNatClampNeg = nI (gC 0) from congrArg (fun j => nI (gC j)) (nI_clamp (by omega))) ?_
  refine lv_bipush (v := nI 16) hx hb dX3_output_36 (by decide) ?_
  refine lv_icmp_ne (tgt := 45) hx hb dX3_output_38 (by decide) (fun hc => absurd ((nI_eq (by omega) (by omega)).mpr (by omega)) hc) (fun _ => ?_)
  refine lv_iconst (v := nI 2) hx hb dX3_output_41 (by decide) ?_
  refine lv_goto (tgt := 59) hx hb dX3_output_42 (by decide) ?_
  refine va_put (D := D) (ci := 3) (v := .int (nI 2)) (ty := .int) (C := RX3) (T := TX3) (N := 16) hx hb hts hin3 tyX3 tyX3_ok nmX3 hown hK hP hD hS 0 rfl rfl 0 (by decide) kf44 (fun _ h9 => h9) rfl (by decide +kernel) rfl rfl (Nat.le_of_ble_eq_true rfl) dX3_output_59 (fun H locs hP hD hS => ?_)
  have hP : va_P D vwCl [(hm, .inr (3, [.int (nI 2), .int (nI nd), .ref q0, .ref q1, .int (nI mi), .int (nI ml), .ref q2, .ref q3, .ref q4, .ref q5, .ref q6, .ref q7, .ref q8, .ref q9, .int (nI sp), .int fa])), (q0, .inl (cI, 401, .inl fs)), (q1, .inl (cJ, 25664, .inr (.inl ft))), (q2, .inl (cI, 4, .inl fl)), (q3, .inl (cI, 8, .inl (fun j => nI (gS j)))), (q4, .inl (cI, 8, .inl (fun j => nI (gX j)))), (q5, .inl (cI, 8, .inl (fun j => nI (gT j)))), (q6, .inl (cI, 2, .inl (fun j => nI (gC j)))), (q7, .inl (cI, 32, .inl (fun j => nI (gO j)))), (q8, .inl (cI, 32, .inl fD)), (q9, .inl (cI, 2, .inl (fun j => nI (gE j))))] H := hP
  have hD : va_D A [(hm, .inr (3, [.int (nI 2), .int (nI nd), .ref q0, .ref q1, .int (nI mi), .int (nI ml), .ref q2, .ref q3, .ref q4, .ref q5, .ref q6, .ref q7, .ref q8, .ref q9, .int (nI sp), .int fa])), (q0, .inl (cI, 401, .inl fs)), (q1, .inl (cJ, 25664, .inr (.inl ft))), (q2, .inl (cI, 4, .inl fl)), (q3, .inl (cI, 8, .inl (fun j => nI (gS j)))), (q4, .inl (cI, 8, .inl (fun j => nI (gX j)))), (q5, .inl (cI, 8, .inl (fun j => nI (gT j)))), (q6, .inl (cI, 2, .inl (fun j => nI (gC j)))), (q7, .inl (cI, 32, .inl (fun j => nI (gO j)))), (q8, .inl (cI, 32, .inl fD)), (q9, .inl (cI, 2, .inl (fun j => nI (gE j))))] := hD
  refine lv_aload_n hx hb dX3_output_62 rfl (lv_at hl 1 rfl) ?_
  refine va_get (D := D) (ci := 3) (v := .int (nI 2)) (C := RX3) (T := TX3) (N := 16) hx hb hts hin3 hown hK hP 0 rfl rfl 0 (by decide) kf44 (fun _ h9 => h9) rfl dX3_output_63 ?_
  refine lv_if_le (tgt := 71) hx hb dX3_output_66 (by decide) (fun hc => absurd hc (by decide)) (fun _ => ?_)
  refine lv_iconst (v := nI 0) hx hb dX3_output_69 (by decide) ?_
  exact wr_i (()) hx hb hr hlocks hP hD hS dX3_output_70 (rfl) (trivial)
set_option maxHeartbeats 4000000 in
set_option maxRecDepth 100000 in
/-- output: of the other side -/
theorem w_X3_outputB3_0 (lit : Nat) (h1 : lit < 2 * nd) (hnd : nd ≤ 400) (h16 : gC 0 < 16) (ho : ¬ fs (lit / 2) = -1 ∧ ¬ fs (lit / 2) = nI 0) (sz : Nat) : Met l yX3_output wsX3_output { frames := 1, cells := 0, slots := 0, locals := 22 } (wr_P D [(cI, .int), (cJ, .long)] (mW hm q0 q1 q2 q3 q4 q5 q6 q7 q8 q9 cI cJ th nd fs ft mi ml fl gS gX gT gC gO fD gE sp fa) sz tp [.ref hm, .int (nI 0), .int (nI lit)]) (wx (Su := Unit) D [(cI, .int), (cJ, .long)] (va_A (mW hm q0 q1 q2 q3 q4 q5 q6 q7 q8 q9 cI cJ th nd fs ft mi ml fl gS gX gT gC gO fD gE sp fa) sz) (fun _ => some (.int (nI 0))) (fun _ => True) (fun _ => mW hm q0 q1 q2 q3 q4 q5 q6 q7 q8 q9 cI cJ (nI 3) nd fs ft mi ml fl gS gX gT gC gO fD gE sp fa)) 0 0 (va_A (mW hm q0 q1 q2 q3 q4 q5 q6 q7 q8 q9 cI cJ th nd fs ft mi ml fl gS gX gT gC gO fD gE sp fa) sz) := by
  refine Met.ofW (cc := cX3_output) (maxL := 4) (ret := (some .int)) (by decide) rfl ?_
  intro p e s m args below meth c s₁ B hml hv
  obtain ⟨rfl, hsz, ⟨hP, hK, hD0⟩, hE⟩ := hv
  have hx := B.exec
  have hb := B.bytes
  have hr := B.returns
  have hts := atoms_spec (ws := wsX3_output) B.pre
  have hown : s.vm.findClass RX3 = some m.cls := findClass_of_methodNamed B.named
  have hlocks := B.notSynchronized
  subst hsz
  have hD := hD0.self (sz := s.heap.size)
  generalize hAe : va_A (mW hm q0 q1 q2 q3 q4 q5 q6 q7 q8 q9 cI cJ th nd fs ft mi ml fl gS gX gT gC gO fD gE sp fa) s.heap.size = A at hD hE ⊢
  have hA : ∀ q : Nat, s.heap.size ≤ q → A q := fun q h => by rw [← hAe]; exact Or.inr h
  have hS : va_S A s.heap s.heap [] := va_S.rf
  have hP : va_P D vwCl [(hm, .inr (3, [.int th, .int (nI nd), .ref q0, .ref q1, .int (nI mi), .int (nI ml), .ref q2, .ref q3, .ref q4, .ref q5, .ref q6, .ref q7, .ref q8, .ref q9, .int (nI sp), .int fa])), (q0, .inl (cI, 401, .inl fs)), (q1, .inl (cJ, 25664, .inr (.inl ft))), (q2, .inl (cI, 4, .inl fl)), (q3, .inl (cI, 8, .inl (fun j => nI (gS j)))), (q4, .inl (cI, 8, .inl (fun j => nI (gX j)))), (q5, .inl (cI, 8, .inl (fun j => nI (gT j)))), (q6, .inl (cI, 2, .inl (fun j => nI (gC j)))), (q7, .inl (cI, 32, .inl (fun j => nI (gO j)))), (q8, .inl (cI, 32, .inl fD)), (q9, .inl (cI, 2, .inl (fun j => nI (gE j))))] s.heap := hP
  have hD : va_D A [(hm, .inr (3, [.int th, .int (nI nd), .ref q0, .ref q1, .int (nI mi), .int (nI ml), .ref q2, .ref q3, .ref q4, .ref q5, .ref q6, .ref q7, .ref q8, .ref q9, .int (nI sp), .int fa])), (q0, .inl (cI, 401, .inl fs)), (q1, .inl (cJ, 25664, .inr (.inl ft))), (q2, .inl (cI, 4, .inl fl)), (q3, .inl (cI, 8, .inl (fun j => nI (gS j)))), (q4, .inl (cI, 8, .inl (fun j => nI (gX j)))), (q5, .inl (cI, 8, .inl (fun j => nI (gT j)))), (q6, .inl (cI, 2, .inl (fun j => nI (gC j)))), (q7, .inl (cI, 32, .inl (fun j => nI (gO j)))), (q8, .inl (cI, 32, .inl fD)), (q9, .inl (cI, 2, .inl (fun j => nI (gE j))))] := hD
  have hl := lv_entry ([.ref hm, .int (nI 0), .int (nI lit)]) (n := 4) (Nat.le_of_ble_eq_true rfl)
  rw [lg_entry_eq]
  generalize (lg_sl ([.ref hm, .int (nI 0), .int (nI lit)]) ++ List.replicate (4 - (lg_sl ([.ref hm, .int (nI 0), .int (nI lit)])).length) Slot.unset).toArray = ls at hl ⊢
  have hl : lv_has ls 4 [(0, .ref hm), (1, .int (nI 0)), (2, .int (nI lit))] := hl
  have hin3 : ∀ w ∈ wsX30, w ∈ wsX3_output := by decide +kernel
  have kf29 := hts (.fieldLink RX3 29 "SweepEqualModel" "outputCounts" "[I") (by decide +kernel)
  have kf44 := hts (.fieldLink RX3 44 "SweepEqualModel" "thrown" "I") (by decide +kernel)
  have kf32 := hts (.fieldLink RX3 32 "SweepEqualModel" "outputs" "[I") (by decide +kernel)
  refine lv_iload_n hx hb dX3_output_0 rfl (lv_at hl 1 rfl) ?_
  refine rd_S (As := [.int (nI 0)]) (rest := []) ⟨hx, hb, hml, hown, hts⟩ (c_X3_isSide l (nI 0)) (va_cwS 1 hts gX3_output_X3_isSide rfl rfl rfl (by decide +kernel) ⟨Nat.le_of_ble_eq_true rfl, Nat.le_of_ble_eq_true rfl⟩) preEq rfl hl.1 rfl (Nat.le_of_ble_eq_true rfl) dX3_output_1 ⟨by show _ ≤ _; simp only [headSpec]; omega, by show _ ≤ _; simp only [headSpec]; omega⟩ ?_
  refine tp_i (show zI (decide (nI 0 = 0 ∨ nI 0 = 1)) = nI 1 from by decide) ?_
  refine lv_if_eq (tgt := 19) hx hb dX3_output_4 (by decide) (fun hc => absurd hc (by decide)) (fun _ => ?_)
  refine lv_aload_n hx hb dX3_output_7 rfl (lv_at hl 0 rfl) ?_
  refine lv_iload_n hx hb dX3_output_8 rfl (lv_at hl 2 rfl) ?_
  refine rd_V (As := [.int (nI lit)]) (rest := []) ⟨hx, hb, hml, hown, hts⟩ (c_X3_isLiteral l D cI cJ hm q0 q1 q2 q3 q4 q5 q6 q7 q8 q9 th nd fs ft mi ml fl gS gX gT gC gO fD gE sp fa (nI lit)) (cwV 1 hts gX3_output_X3_isLiteral rfl rfl rfl (by decide +kernel) ⟨Nat.le_of_ble_eq_true rfl, Nat.le_of_ble_eq_true rfl⟩) (rd_pv (ci := 3) (q0 := 0) hK hP rfl rfl) rfl hl.1 rfl (Nat.le_of_ble_eq_true rfl) dX3_output_9 ⟨by show _ ≤ _; simp only [headSpec]; omega, by show _ ≤ _; simp only [headSpec]; omega⟩ ?_
  refine tp_i (show zI (decide (¬ nI lit < 0 ∧ ¬ nI (2 * nd) ≤ nI lit)) = nI 1 from lit_t h1 (by omega)) ?_
  refine lv_if_eq (tgt := 19) hx hb dX3_output_12 (by decide) (fun hc => absurd hc (by decide)) (fun _ => ?_)
  refine lv_iconst (v := nI 1) hx hb dX3_output_15 (by decide) ?_
  refine lv_goto (tgt := 20) hx hb dX3_output_16 (by decide) ?_
  refine lv_istore_n (lv' := [(3, .int (nI 1)), (0, .ref hm), (1, .int (nI 0)), (2, .int (nI lit))]) hx hb dX3_output_20 rfl hl (by decide) rfl (fun ls hl => ?_)
  refine lv_aload_n hx hb dX3_output_21 rfl (lv_at hl 1 rfl) ?_
  refine lv_iload_n hx hb dX3_output_22 rfl (lv_at hl 0 rfl) ?_
  refine lv_if_ne (tgt := 30) hx hb dX3_output_23 (by decide) (fun _ => ?_) (fun hc => absurd hc (by decide))
  refine lv_aload_n hx hb dX3_output_30 rfl (lv_at hl 1 rfl) ?_
  refine va_get (D := D) (ci := 3) (v := .ref q6) (C := RX3) (T := TX3) (N := 16) hx hb hts hin3 hown hK hP 0 rfl rfl 10 (by decide) kf29 (fun _ h9 => h9) rfl dX3_output_31 ?_
  refine lv_iload_n hx hb dX3_output_34 rfl (lv_at hl 2 rfl) ?_
  refine va_iald hx hb hK hP 7 0 rfl rfl (vp_in_nI (by omega) (by omega)) dX3_output_35 ?_
  refine tp_i (show (fun j => nI (gC j)) (nI 0).toNatClampNeg = nI (gC 0) from congrArg (fun j => nI (gC j)) (nI_clamp (by omega))) ?_
  refine lv_bipush (v := nI 16) hx hb dX3_output_36 (by decide) ?_
  refine lv_icmp_ne (tgt := 45) hx hb dX3_output_38 (by decide) (fun _ => ?_) (fun hc => absurd ((nI_eq (by omega) (by omega)).mp hc) (by omega))
  refine lv_aload_n hx hb dX3_output_45 rfl (lv_at hl 1 rfl) ?_
  refine lv_iload_n hx hb dX3_output_46 rfl (lv_at hl 2 rfl) ?_
  refine lv_iload_n hx hb dX3_output_47 rfl (lv_at hl 3 rfl) ?_
  refine rd_V (As := [.int (nI 0), .int (nI lit)]) (rest := [.ref hm]) ⟨hx, hb, hml, hown, hts⟩ (c_X3_isOther l D cI cJ hm q0 q1 q2 q3 q4 q5 q6 q7 q8 q9 th nd fs ft mi ml fl gS gX gT gC gO fD gE sp fa (nI 0) lit (by omega)) (cwV 2 hts gX3_output_X3_isOther rfl rfl rfl (by decide +kernel) ⟨Nat.le_of_ble_eq_true rfl, Nat.le_of_ble_eq_true rfl⟩) (rd_pv (ci := 3) (q0 := 0) hK hP rfl rfl) rfl hl.1 rfl (Nat.le_of_ble_eq_true rfl) dX3_output_48 ⟨by show _ ≤ _; simp only [headSpec]; omega, by show _ ≤ _; simp only [headSpec]; omega⟩ ?_
  refine tp_i (show zI (decide (¬ fs (lit / 2) = -1 ∧ ¬ fs (lit / 2) = nI 0)) = nI 1 from zd_1 ho) ?_
  refine lv_if_eq (tgt := 58) hx hb dX3_output_51 (by decide) (fun hc => absurd hc (by decide)) (fun _ => ?_)
  refine lv_iconst (v := nI 3) hx hb dX3_output_54 (by decide) ?_
  refine lv_goto (tgt := 59) hx hb dX3_output_55 (by decide) ?_
  refine va_put (D := D) (ci := 3) (v := .int (nI 3)) (ty := .int) (C := RX3) (T := TX3) (N := 16) hx hb hts hin3 tyX3 tyX3_ok nmX3 hown hK hP hD hS 0 rfl rfl 0 (by decide) kf44 (fun _ h9 => h9) rfl (by decide +kernel) rfl rfl (Nat.le_of_ble_eq_true rfl) dX3_output_59 (fun H locs hP hD hS => ?_)
  have hP : va_P D vwCl [(hm, .inr (3, [.int (nI 3), .int (nI nd), .ref q0, .ref q1, .int (nI mi), .int (nI ml), .ref q2, .ref q3, .ref q4, .ref q5, .ref q6, .ref q7, .ref q8, .ref q9, .int (nI sp), .int fa])), (q0, .inl (cI, 401, .inl fs)), (q1, .inl (cJ, 25664, .inr (.inl ft))), (q2, .inl (cI, 4, .inl fl)), (q3, .inl (cI, 8, .inl (fun j => nI (gS j)))), (q4, .inl (cI, 8, .inl (fun j => nI (gX j)))), (q5, .inl (cI, 8, .inl (fun j => nI (gT j)))), (q6, .inl (cI, 2, .inl (fun j => nI (gC j)))), (q7, .inl (cI, 32, .inl (fun j => nI (gO j)))), (q8, .inl (cI, 32, .inl fD)), (q9, .inl (cI, 2, .inl (fun j => nI (gE j))))] H := hP
  have hD : va_D A [(hm, .inr (3, [.int (nI 3), .int (nI nd), .ref q0, .ref q1, .int (nI mi), .int (nI ml), .ref q2, .ref q3, .ref q4, .ref q5, .ref q6, .ref q7, .ref q8, .ref q9, .int (nI sp), .int fa])), (q0, .inl (cI, 401, .inl fs)), (q1, .inl (cJ, 25664, .inr (.inl ft))), (q2, .inl (cI, 4, .inl fl)), (q3, .inl (cI, 8, .inl (fun j => nI (gS j)))), (q4, .inl (cI, 8, .inl (fun j => nI (gX j)))), (q5, .inl (cI, 8, .inl (fun j => nI (gT j)))), (q6, .inl (cI, 2, .inl (fun j => nI (gC j)))), (q7, .inl (cI, 32, .inl (fun j => nI (gO j)))), (q8, .inl (cI, 32, .inl fD)), (q9, .inl (cI, 2, .inl (fun j => nI (gE j))))] := hD
  refine lv_aload_n hx hb dX3_output_62 rfl (lv_at hl 1 rfl) ?_
  refine va_get (D := D) (ci := 3) (v := .int (nI 3)) (C := RX3) (T := TX3) (N := 16) hx hb hts hin3 hown hK hP 0 rfl rfl 0 (by decide) kf44 (fun _ h9 => h9) rfl dX3_output_63 ?_
  refine lv_if_le (tgt := 71) hx hb dX3_output_66 (by decide) (fun hc => absurd hc (by decide)) (fun _ => ?_)
  refine lv_iconst (v := nI 0) hx hb dX3_output_69 (by decide) ?_
  exact wr_i (()) hx hb hr hlocks hP hD hS dX3_output_70 (rfl) (trivial)
set_option maxHeartbeats 4000000 in
set_option maxRecDepth 100000 in
/-- output of side 1 -/
theorem w_X3_output1 (lit : Nat) (h1 : lit < 2 * nd) (hnd : nd ≤ 400) (h16 : gC 1 < 16) (ho : ¬ (¬ fs (lit / 2) = -1 ∧ ¬ fs (lit / 2) = nI 1)) (sz : Nat) : Met l yX3_output wsX3_output { frames := 1, cells := 0, slots := 0, locals := 22 } (wr_P D [(cI, .int), (cJ, .long)] (mW hm q0 q1 q2 q3 q4 q5 q6 q7 q8 q9 cI cJ th nd fs ft mi ml fl gS gX gT gC gO fD gE sp fa) sz tp [.ref hm, .int (nI 1), .int (nI lit)]) (wx (Su := Unit) D [(cI, .int), (cJ, .long)] (va_A (mW hm q0 q1 q2 q3 q4 q5 q6 q7 q8 q9 cI cJ th nd fs ft mi ml fl gS gX gT gC gO fD gE sp fa) sz) (fun _ => some (.int (nI (gC 1)))) (fun _ => True) (fun _ => mW hm q0 q1 q2 q3 q4 q5 q6 q7 q8 q9 cI cJ (nI 0) nd fs ft mi ml fl gS gX gT (va_up gC 1 (gC 1 + 1)) (va_up gO (16 + gC 1) lit) fD gE sp fa)) 0 0 (va_A (mW hm q0 q1 q2 q3 q4 q5 q6 q7 q8 q9 cI cJ th nd fs ft mi ml fl gS gX gT gC gO fD gE sp fa) sz) := by
  refine Met.ofW (cc := cX3_output) (maxL := 4) (ret := (some .int)) (by decide) rfl ?_
  intro p e s m args below meth c s₁ B hml hv
  obtain ⟨rfl, hsz, ⟨hP, hK, hD0⟩, hE⟩ := hv
  have hx := B.exec
  have hb := B.bytes
  have hr := B.returns
  have hts := atoms_spec (ws := wsX3_output) B.pre
  have hown : s.vm.findClass RX3 = some m.cls := findClass_of_methodNamed B.named
  have hlocks := B.notSynchronized
  subst hsz
  have hD := hD0.self (sz := s.heap.size)
  generalize hAe : va_A (mW hm q0 q1 q2 q3 q4 q5 q6 q7 q8 q9 cI cJ th nd fs ft mi ml fl gS gX gT gC gO fD gE sp fa) s.heap.size = A at hD hE ⊢
  have hA : ∀ q : Nat, s.heap.size ≤ q → A q := fun q h => by rw [← hAe]; exact Or.inr h
  have hS : va_S A s.heap s.heap [] := va_S.rf
  have hP : va_P D vwCl [(hm, .inr (3, [.int th, .int (nI nd), .ref q0, .ref q1, .int (nI mi), .int (nI ml), .ref q2, .ref q3, .ref q4, .ref q5, .ref q6, .ref q7, .ref q8, .ref q9, .int (nI sp), .int fa])), (q0, .inl (cI, 401, .inl fs)), (q1, .inl (cJ, 25664, .inr (.inl ft))), (q2, .inl (cI, 4, .inl fl)), (q3, .inl (cI, 8, .inl (fun j => nI (gS j)))), (q4, .inl (cI, 8, .inl (fun j => nI (gX j)))), (q5, .inl (cI, 8, .inl (fun j => nI (gT j)))), (q6, .inl (cI, 2, .inl (fun j => nI (gC j)))), (q7, .inl (cI, 32, .inl (fun j => nI (gO j)))), (q8, .inl (cI, 32, .inl fD)), (q9, .inl (cI, 2, .inl (fun j => nI (gE j))))] s.heap := hP
  have hD : va_D A [(hm, .inr (3, [.int th, .int (nI nd), .ref q0, .ref q1, .int (nI mi), .int (nI ml), .ref q2, .ref q3, .ref q4, .ref q5, .ref q6, .ref q7, .ref q8, .ref q9, .int (nI sp), .int fa])), (q0, .inl (cI, 401, .inl fs)), (q1, .inl (cJ, 25664, .inr (.inl ft))), (q2, .inl (cI, 4, .inl fl)), (q3, .inl (cI, 8, .inl (fun j => nI (gS j)))), (q4, .inl (cI, 8, .inl (fun j => nI (gX j)))), (q5, .inl (cI, 8, .inl (fun j => nI (gT j)))), (q6, .inl (cI, 2, .inl (fun j => nI (gC j)))), (q7, .inl (cI, 32, .inl (fun j => nI (gO j)))), (q8, .inl (cI, 32, .inl fD)), (q9, .inl (cI, 2, .inl (fun j => nI (gE j))))] := hD
  have hl := lv_entry ([.ref hm, .int (nI 1), .int (nI lit)]) (n := 4) (Nat.le_of_ble_eq_true rfl)
  rw [lg_entry_eq]
  generalize (lg_sl ([.ref hm, .int (nI 1), .int (nI lit)]) ++ List.replicate (4 - (lg_sl ([.ref hm, .int (nI 1), .int (nI lit)])).length) Slot.unset).toArray = ls at hl ⊢
  have hl : lv_has ls 4 [(0, .ref hm), (1, .int (nI 1)), (2, .int (nI lit))] := hl
  have hin3 : ∀ w ∈ wsX30, w ∈ wsX3_output := by decide +kernel
  have kf29 := hts (.fieldLink RX3 29 "SweepEqualModel" "outputCounts" "[I") (by decide +kernel)
  have kf44 := hts (.fieldLink RX3 44 "SweepEqualModel" "thrown" "I") (by decide +kernel)
  have kf32 := hts (.fieldLink RX3 32 "SweepEqualModel" "outputs" "[I") (by decide +kernel)
  refine lv_iload_n hx hb dX3_output_0 rfl (lv_at hl 1 rfl) ?_
  refine rd_S (As := [.int (nI 1)]) (rest := []) ⟨hx, hb, hml, hown, hts⟩ (c_X3_isSide l (nI 1)) (va_cwS 1 hts gX3_output_X3_isSide rfl rfl rfl (by decide +kernel) ⟨Nat.le_of_ble_eq_true rfl, Nat.le_of_ble_eq_true rfl⟩) preEq rfl hl.1 rfl (Nat.le_of_ble_eq_true rfl) dX3_output_1 ⟨by show _ ≤ _; simp only [headSpec]; omega, by show _ ≤ _; simp only [headSpec]; omega⟩ ?_
  refine tp_i (show zI (decide (nI 1 = 0 ∨ nI 1 = 1)) = nI 1 from by decide) ?_
  refine lv_if_eq (tgt := 19) hx hb dX3_output_4 (by decide) (fun hc => absurd hc (by decide)) (fun _ => ?_)
  refine lv_aload_n hx hb dX3_output_7 rfl (lv_at hl 0 rfl) ?_
  refine lv_iload_n hx hb dX3_output_8 rfl (lv_at hl 2 rfl) ?_
  refine rd_V (As := [.int (nI lit)]) (rest := []) ⟨hx, hb, hml, hown, hts⟩ (c_X3_isLiteral l D cI cJ hm q0 q1 q2 q3 q4 q5 q6 q7 q8 q9 th nd fs ft mi ml fl gS gX gT gC gO fD gE sp fa (nI lit)) (cwV 1 hts gX3_output_X3_isLiteral rfl rfl rfl (by decide +kernel) ⟨Nat.le_of_ble_eq_true rfl, Nat.le_of_ble_eq_true rfl⟩) (rd_pv (ci := 3) (q0 := 0) hK hP rfl rfl) rfl hl.1 rfl (Nat.le_of_ble_eq_true rfl) dX3_output_9 ⟨by show _ ≤ _; simp only [headSpec]; omega, by show _ ≤ _; simp only [headSpec]; omega⟩ ?_
  refine tp_i (show zI (decide (¬ nI lit < 0 ∧ ¬ nI (2 * nd) ≤ nI lit)) = nI 1 from lit_t h1 (by omega)) ?_
  refine lv_if_eq (tgt := 19) hx hb dX3_output_12 (by decide) (fun hc => absurd hc (by decide)) (fun _ => ?_)
  refine lv_iconst (v := nI 1) hx hb dX3_output_15 (by decide) ?_
  refine lv_goto (tgt := 20) hx hb dX3_output_16 (by decide) ?_
  refine lv_istore_n (lv' := [(3, .int (nI 1)), (0, .ref hm), (1, .int (nI 1)), (2, .int (nI lit))]) hx hb dX3_output_20 rfl hl (by decide) rfl (fun ls hl => ?_)
  refine lv_aload_n hx hb dX3_output_21 rfl (lv_at hl 1 rfl) ?_
  refine lv_iload_n hx hb dX3_output_22 rfl (lv_at hl 0 rfl) ?_
  refine lv_if_ne (tgt := 30) hx hb dX3_output_23 (by decide) (fun _ => ?_) (fun hc => absurd hc (by decide))
  refine lv_aload_n hx hb dX3_output_30 rfl (lv_at hl 1 rfl) ?_
  refine va_get (D := D) (ci := 3) (v := .ref q6) (C := RX3) (T := TX3) (N := 16) hx hb hts hin3 hown hK hP 0 rfl rfl 10 (by decide) kf29 (fun _ h9 => h9) rfl dX3_output_31 ?_
  refine lv_iload_n hx hb dX3_output_34 rfl (lv_at hl 2 rfl) ?_
  refine va_iald hx hb hK hP 7 0 rfl rfl (vp_in_nI (by omega) (by omega)) dX3_output_35 ?_
  refine tp_i (show (fun j => nI (gC j)) (nI 1).toNatClampNeg = nI (gC 1) from congrArg (fun j => nI (gC j)) (nI_clamp (by omega))) ?_
  refine lv_bipush (v := nI 16) hx hb dX3_output_36 (by decide) ?_
  refine lv_icmp_ne (tgt := 45) hx hb dX3_output_38 (by decide) (fun _ => ?_) (fun hc => absurd ((nI_eq (by omega) (by omega)).mp hc) (by omega))
  refine lv_aload_n hx hb dX3_output_45 rfl (lv_at hl 1 rfl) ?_
  refine lv_iload_n hx hb dX3_output_46 rfl (lv_at hl 2 rfl) ?_
  refine lv_iload_n hx hb dX3_output_47 rfl (lv_at hl 3 rfl) ?_
  refine rd_V (As := [.int (nI 1), .int (nI lit)]) (rest := [.ref hm]) ⟨hx, hb, hml, hown, hts⟩ (c_X3_isOther l D cI cJ hm q0 q1 q2 q3 q4 q5 q6 q7 q8 q9 th nd fs ft mi ml fl gS gX gT gC gO fD gE sp fa (nI 1) lit (by omega)) (cwV 2 hts gX3_output_X3_isOther rfl rfl rfl (by decide +kernel) ⟨Nat.le_of_ble_eq_true rfl, Nat.le_of_ble_eq_true rfl⟩) (rd_pv (ci := 3) (q0 := 0) hK hP rfl rfl) rfl hl.1 rfl (Nat.le_of_ble_eq_true rfl) dX3_output_48 ⟨by show _ ≤ _; simp only [headSpec]; omega, by show _ ≤ _; simp only [headSpec]; omega⟩ ?_
  refine tp_i (show zI (decide (¬ fs (lit / 2) = -1 ∧ ¬ fs (lit / 2) = nI 1)) = nI 0 from zd_0 ho) ?_
  refine lv_if_eq (tgt := 58) hx hb dX3_output_51 (by decide) (fun _ => ?_) (fun hc => absurd hc (by decide))
  refine lv_iconst (v := nI 0) hx hb dX3_output_58 (by decide) ?_
  refine va_put (D := D) (ci := 3) (v := .int (nI 0)) (ty := .int) (C := RX3) (T := TX3) (N := 16) hx hb hts hin3 tyX3 tyX3_ok nmX3 hown hK hP hD hS 0 rfl rfl 0 (by decide) kf44 (fun _ h9 => h9) rfl (by decide +kernel) rfl rfl (Nat.le_of_ble_eq_true rfl) dX3_output_59 (fun H locs hP hD hS => ?_)
  have hP : va_P D vwCl [(hm, .inr (3, [.int (nI 0), .int (nI nd), .ref q0, .ref q1, .int (nI mi), .int (nI ml), .ref q2, .ref q3, .ref q4, .ref q5, .ref q6, .ref q7, .ref q8, .ref q9, .int (nI sp), .int fa])), (q0, .inl (cI, 401, .inl fs)), (q1, .inl (cJ, 25664, .inr (.inl ft))), (q2, .inl (cI, 4, .inl fl)), (q3, .inl (cI, 8, .inl (fun j => nI (gS j)))), (q4, .inl (cI, 8, .inl (fun j => nI (gX j)))), (q5, .inl (cI, 8, .inl (fun j => nI (gT j)))), (q6, .inl (cI, 2, .inl (fun j => nI (gC j)))), (q7, .inl (cI, 32, .inl (fun j => nI (gO j)))), (q8, .inl (cI, 32, .inl fD)), (q9, .inl (cI, 2, .inl (fun j => nI (gE j))))] H := hP
  have hD : va_D A [(hm, .inr (3, [.int (nI 0), .int (nI nd), .ref q0, .ref q1, .int (nI mi), .int (nI ml), .ref q2, .ref q3, .ref q4, .ref q5, .ref q6, .ref q7, .ref q8, .ref q9, .int (nI sp), .int fa])), (q0, .inl (cI, 401, .inl fs)), (q1, .inl (cJ, 25664, .inr (.inl ft))), (q2, .inl (cI, 4, .inl fl)), (q3, .inl (cI, 8, .inl (fun j => nI (gS j)))), (q4, .inl (cI, 8, .inl (fun j => nI (gX j)))), (q5, .inl (cI, 8, .inl (fun j => nI (gT j)))), (q6, .inl (cI, 2, .inl (fun j => nI (gC j)))), (q7, .inl (cI, 32, .inl (fun j => nI (gO j)))), (q8, .inl (cI, 32, .inl fD)), (q9, .inl (cI, 2, .inl (fun j => nI (gE j))))] := hD
  refine lv_aload_n hx hb dX3_output_62 rfl (lv_at hl 1 rfl) ?_
  refine va_get (D := D) (ci := 3) (v := .int (nI 0)) (C := RX3) (T := TX3) (N := 16) hx hb hts hin3 hown hK hP 0 rfl rfl 0 (by decide) kf44 (fun _ h9 => h9) rfl dX3_output_63 ?_
  refine lv_if_le (tgt := 71) hx hb dX3_output_66 (by decide) (fun _ => ?_) (fun hc => absurd hc (by decide))
  refine lv_aload_n hx hb dX3_output_71 rfl (lv_at hl 1 rfl) ?_
  refine va_get (D := D) (ci := 3) (v := .ref q7) (C := RX3) (T := TX3) (N := 16) hx hb hts hin3 hown hK hP 0 rfl rfl 11 (by decide) kf32 (fun _ h9 => h9) rfl dX3_output_72 ?_
  refine lv_bipush (v := nI 16) hx hb dX3_output_75 (by decide) ?_
  refine lv_iload_n hx hb dX3_output_77 rfl (lv_at hl 2 rfl) ?_
  refine lv_imul hx hb dX3_output_78 ?_
  refine tp_i (show (nI 16) * (nI 1) = nI 16 from by decide) ?_
  refine lv_aload_n hx hb dX3_output_79 rfl (lv_at hl 1 rfl) ?_
  refine va_get (D := D) (ci := 3) (v := .ref q6) (C := RX3) (T := TX3) (N := 16) hx hb hts hin3 hown hK hP 0 rfl rfl 10 (by decide) kf29 (fun _ h9 => h9) rfl dX3_output_80 ?_
  refine lv_iload_n hx hb dX3_output_83 rfl (lv_at hl 2 rfl) ?_
  refine va_iald hx hb hK hP 7 0 rfl rfl (vp_in_nI (by omega) (by omega)) dX3_output_84 ?_
  refine tp_i (show (fun j => nI (gC j)) (nI 1).toNatClampNeg = nI (gC 1) from congrArg (fun j => nI (gC j)) (nI_clamp (by omega))) ?_
  refine lv_iadd hx hb dX3_output_85 ?_
  refine tp_i (show (nI 16) + (nI (gC 1)) = nI (16 + (gC 1)) from nI_add _ _) ?_
  refine lv_iload_n hx hb dX3_output_86 rfl (lv_at hl 3 rfl) ?_
  refine va_iast hx hb hK hP hD hS 8 0 rfl rfl (vp_in_nI (by omega) (by omega)) dX3_output_87 (fun H locs hP hD hS => ?_)
  have hP : va_P D vwCl [(hm, .inr (3, [.int (nI 0), .int (nI nd), .ref q0, .ref q1, .int (nI mi), .int (nI ml), .ref q2, .ref q3, .ref q4, .ref q5, .ref q6, .ref q7, .ref q8, .ref q9, .int (nI sp), .int fa])), (q0, .inl (cI, 401, .inl fs)), (q1, .inl (cJ, 25664, .inr (.inl ft))), (q2, .inl (cI, 4, .inl fl)), (q3, .inl (cI, 8, .inl (fun j => nI (gS j)))), (q4, .inl (cI, 8, .inl (fun j => nI (gX j)))), (q5, .inl (cI, 8, .inl (fun j => nI (gT j)))), (q6, .inl (cI, 2, .inl (fun j => nI (gC j)))), (q7, .inl (cI, 32, .inl (upd (fun j => nI (gO j)) (nI (16 + (gC 1))).toNatClampNeg (nI lit)))), (q8, .inl (cI, 32, .inl fD)), (q9, .inl (cI, 2, .inl (fun j => nI (gE j))))] H := hP
  have hD : va_D A [(hm, .inr (3, [.int (nI 0), .int (nI nd), .ref q0, .ref q1, .int (nI mi), .int (nI ml), .ref q2, .ref q3, .ref q4, .ref q5, .ref q6, .ref q7, .ref q8, .ref q9, .int (nI sp), .int fa])), (q0, .inl (cI, 401, .inl fs)), (q1, .inl (cJ, 25664, .inr (.inl ft))), (q2, .inl (cI, 4, .inl fl)), (q3, .inl (cI, 8, .inl (fun j => nI (gS j)))), (q4, .inl (cI, 8, .inl (fun j => nI (gX j)))), (q5, .inl (cI, 8, .inl (fun j => nI (gT j)))), (q6, .inl (cI, 2, .inl (fun j => nI (gC j)))), (q7, .inl (cI, 32, .inl (upd (fun j => nI (gO j)) (nI (16 + (gC 1))).toNatClampNeg (nI lit)))), (q8, .inl (cI, 32, .inl fD)), (q9, .inl (cI, 2, .inl (fun j => nI (gE j))))] := hD
  rw [show upd (fun j => nI (gO j)) (nI (16 + (gC 1))).toNatClampNeg (nI lit) = fun j => nI ((va_up gO (16 + (gC 1)) lit) j) from upN _ (by omega)] at hP hD
  refine lv_aload_n hx hb dX3_output_88 rfl (lv_at hl 1 rfl) ?_
  refine va_get (D := D) (ci := 3) (v := .ref q6) (C := RX3) (T := TX3) (N := 16) hx hb hts hin3 hown hK hP 0 rfl rfl 10 (by decide) kf29 (fun _ h9 => h9) rfl dX3_output_89 ?_
  refine lv_iload_n hx hb dX3_output_92 rfl (lv_at hl 2 rfl) ?_
  refine lv_dup2_11 hx hb dX3_output_93 rfl rfl ?_
  refine va_iald hx hb hK hP 7 0 rfl rfl (vp_in_nI (by omega) (by omega)) dX3_output_94 ?_
  refine tp_i (show (fun j => nI (gC j)) (nI 1).toNatClampNeg = nI (gC 1) from congrArg (fun j => nI (gC j)) (nI_clamp (by omega))) ?_
  refine lv_iconst (v := nI 1) hx hb dX3_output_95 (by decide) ?_
  refine lv_iadd hx hb dX3_output_96 ?_
  refine tp_i (show (nI (gC 1)) + (nI 1) = nI (gC 1 + 1) from nI_add _ _) ?_
  refine va_iast hx hb hK hP hD hS 7 0 rfl rfl (vp_in_nI (by omega) (by omega)) dX3_output_97 (fun H locs hP hD hS => ?_)
  have hP : va_P D vwCl [(hm, .inr (3, [.int (nI 0), .int (nI nd), .ref q0, .ref q1, .int (nI mi), .int (nI ml), .ref q2, .ref q3, .ref q4, .ref q5, .ref q6, .ref q7, .ref q8, .ref q9, .int (nI sp), .int fa])), (q0, .inl (cI, 401, .inl fs)), (q1, .inl (cJ, 25664, .inr (.inl ft))), (q2, .inl (cI, 4, .inl fl)), (q3, .inl (cI, 8, .inl (fun j => nI (gS j)))), (q4, .inl (cI, 8, .inl (fun j => nI (gX j)))), (q5, .inl (cI, 8, .inl (fun j => nI (gT j)))), (q6, .inl (cI, 2, .inl (upd (fun j => nI (gC j)) (nI 1).toNatClampNeg (nI (gC 1 + 1))))), (q7, .inl (cI, 32, .inl (fun j => nI ((va_up gO (16 + (gC 1)) lit) j)))), (q8, .inl (cI, 32, .inl fD)), (q9, .inl (cI, 2, .inl (fun j => nI (gE j))))] H := hP
  have hD : va_D A [(hm, .inr (3, [.int (nI 0), .int (nI nd), .ref q0, .ref q1, .int (nI mi), .int (nI ml), .ref q2, .ref q3, .ref q4, .ref q5, .ref q6, .ref q7, .ref q8, .ref q9, .int (nI sp), .int fa])), (q0, .inl (cI, 401, .inl fs)), (q1, .inl (cJ, 25664, .inr (.inl ft))), (q2, .inl (cI, 4, .inl fl)), (q3, .inl (cI, 8, .inl (fun j => nI (gS j)))), (q4, .inl (cI, 8, .inl (fun j => nI (gX j)))), (q5, .inl (cI, 8, .inl (fun j => nI (gT j)))), (q6, .inl (cI, 2, .inl (upd (fun j => nI (gC j)) (nI 1).toNatClampNeg (nI (gC 1 + 1))))), (q7, .inl (cI, 32, .inl (fun j => nI ((va_up gO (16 + (gC 1)) lit) j)))), (q8, .inl (cI, 32, .inl fD)), (q9, .inl (cI, 2, .inl (fun j => nI (gE j))))] := hD
  rw [show upd (fun j => nI (gC j)) (nI 1).toNatClampNeg (nI (gC 1 + 1)) = fun j => nI ((va_up gC 1 (gC 1 + 1)) j) from upN _ (by omega)] at hP hD
  refine lv_aload_n hx hb dX3_output_98 rfl (lv_at hl 1 rfl) ?_
  refine va_get (D := D) (ci := 3) (v := .ref q6) (C := RX3) (T := TX3) (N := 16) hx hb hts hin3 hown hK hP 0 rfl rfl 10 (by decide) kf29 (fun _ h9 => h9) rfl dX3_output_99 ?_
  refine lv_iload_n hx hb dX3_output_102 rfl (lv_at hl 2 rfl) ?_
  refine va_iald hx hb hK hP 7 0 rfl rfl (vp_in_nI (by omega) (by omega)) dX3_output_103 ?_
  refine tp_i (show (fun j => nI ((va_up gC 1 (gC 1 + 1)) j)) (nI 1).toNatClampNeg = nI ((va_up gC 1 (gC 1 + 1)) 1) from congrArg (fun j => nI ((va_up gC 1 (gC 1 + 1)) j)) (nI_clamp (by omega))) ?_
  refine lv_iconst (v := nI 1) hx hb dX3_output_104 (by decide) ?_
  refine lv_isub hx hb dX3_output_105 ?_
  refine tp_i (show (nI ((va_up gC 1 (gC 1 + 1)) 1)) - (nI 1) = nI (gC 1) from by rw [show va_up gC 1 (gC 1 + 1) 1 = gC 1 + 1 from if_pos rfl]; exact (pk_sub (by omega)).trans (congrArg nI (by omega))) ?_
  exact wr_i (()) hx hb hr hlocks hP hD hS dX3_output_106 (rfl) (trivial)
set_option maxHeartbeats 4000000 in
set_option maxRecDepth 100000 in
/-- output: there are 16 -/
theorem w_X3_outputB2_1 (lit : Nat) (h1 : lit < 2 * nd) (hnd : nd ≤ 400) (h16 : gC 1 = 16) (sz : Nat) : Met l yX3_output wsX3_output { frames := 1, cells := 0, slots := 0, locals := 22 } (wr_P D [(cI, .int), (cJ, .long)] (mW hm q0 q1 q2 q3 q4 q5 q6 q7 q8 q9 cI cJ th nd fs ft mi ml fl gS gX gT gC gO fD gE sp fa) sz tp [.ref hm, .int (nI 1), .int (nI lit)]) (wx (Su := Unit) D [(cI, .int), (cJ, .long)] (va_A (mW hm q0 q1 q2 q3 q4 q5 q6 q7 q8 q9 cI cJ th nd fs ft mi ml fl gS gX gT gC gO fD gE sp fa) sz) (fun _ => some (.int (nI 0))) (fun _ => True) (fun _ => mW hm q0 q1 q2 q3 q4 q5 q6 q7 q8 q9 cI cJ (nI 2) nd fs ft mi ml fl gS gX gT gC gO fD gE sp fa)) 0 0 (va_A (mW hm q0 q1 q2 q3 q4 q5 q6 q7 q8 q9 cI cJ th nd fs ft mi ml fl gS gX gT gC gO fD gE sp fa) sz) := by
  refine Met.ofW (cc := cX3_output) (maxL := 4) (ret := (some .int)) (by decide) rfl ?_
  intro p e s m args below meth c s₁ B hml hv
  obtain ⟨rfl, hsz, ⟨hP, hK, hD0⟩, hE⟩ := hv
  have hx := B.exec
  have hb := B.bytes
  have hr := B.returns
  have hts := atoms_spec (ws := wsX3_output) B.pre
  have hown : s.vm.findClass RX3 = some m.cls := findClass_of_methodNamed B.named
  have hlocks := B.notSynchronized
  subst hsz
  have hD := hD0.self (sz := s.heap.size)
  generalize hAe : va_A (mW hm q0 q1 q2 q3 q4 q5 q6 q7 q8 q9 cI cJ th nd fs ft mi ml fl gS gX gT gC gO fD gE sp fa) s.heap.size = A at hD hE ⊢
  have hA : ∀ q : Nat, s.heap.size ≤ q → A q := fun q h => by rw [← hAe]; exact Or.inr h
  have hS : va_S A s.heap s.heap [] := va_S.rf
  have hP : va_P D vwCl [(hm, .inr (3, [.int th, .int (nI nd), .ref q0, .ref q1, .int (nI mi), .int (nI ml), .ref q2, .ref q3, .ref q4, .ref q5, .ref q6, .ref q7, .ref q8, .ref q9, .int (nI sp), .int fa])), (q0, .inl (cI, 401, .inl fs)), (q1, .inl (cJ, 25664, .inr (.inl ft))), (q2, .inl (cI, 4, .inl fl)), (q3, .inl (cI, 8, .inl (fun j => nI (gS j)))), (q4, .inl (cI, 8, .inl (fun j => nI (gX j)))), (q5, .inl (cI, 8, .inl (fun j => nI (gT j)))), (q6, .inl (cI, 2, .inl (fun j => nI (gC j)))), (q7, .inl (cI, 32, .inl (fun j => nI (gO j)))), (q8, .inl (cI, 32, .inl fD)), (q9, .inl (cI, 2, .inl (fun j => nI (gE j))))] s.heap := hP
  have hD : va_D A [(hm, .inr (3, [.int th, .int (nI nd), .ref q0, .ref q1, .int (nI mi), .int (nI ml), .ref q2, .ref q3, .ref q4, .ref q5, .ref q6, .ref q7, .ref q8, .ref q9, .int (nI sp), .int fa])), (q0, .inl (cI, 401, .inl fs)), (q1, .inl (cJ, 25664, .inr (.inl ft))), (q2, .inl (cI, 4, .inl fl)), (q3, .inl (cI, 8, .inl (fun j => nI (gS j)))), (q4, .inl (cI, 8, .inl (fun j => nI (gX j)))), (q5, .inl (cI, 8, .inl (fun j => nI (gT j)))), (q6, .inl (cI, 2, .inl (fun j => nI (gC j)))), (q7, .inl (cI, 32, .inl (fun j => nI (gO j)))), (q8, .inl (cI, 32, .inl fD)), (q9, .inl (cI, 2, .inl (fun j => nI (gE j))))] := hD
  have hl := lv_entry ([.ref hm, .int (nI 1), .int (nI lit)]) (n := 4) (Nat.le_of_ble_eq_true rfl)
  rw [lg_entry_eq]
  generalize (lg_sl ([.ref hm, .int (nI 1), .int (nI lit)]) ++ List.replicate (4 - (lg_sl ([.ref hm, .int (nI 1), .int (nI lit)])).length) Slot.unset).toArray = ls at hl ⊢
  have hl : lv_has ls 4 [(0, .ref hm), (1, .int (nI 1)), (2, .int (nI lit))] := hl
  have hin3 : ∀ w ∈ wsX30, w ∈ wsX3_output := by decide +kernel
  have kf29 := hts (.fieldLink RX3 29 "SweepEqualModel" "outputCounts" "[I") (by decide +kernel)
  have kf44 := hts (.fieldLink RX3 44 "SweepEqualModel" "thrown" "I") (by decide +kernel)
  have kf32 := hts (.fieldLink RX3 32 "SweepEqualModel" "outputs" "[I") (by decide +kernel)
  refine lv_iload_n hx hb dX3_output_0 rfl (lv_at hl 1 rfl) ?_
  refine rd_S (As := [.int (nI 1)]) (rest := []) ⟨hx, hb, hml, hown, hts⟩ (c_X3_isSide l (nI 1)) (va_cwS 1 hts gX3_output_X3_isSide rfl rfl rfl (by decide +kernel) ⟨Nat.le_of_ble_eq_true rfl, Nat.le_of_ble_eq_true rfl⟩) preEq rfl hl.1 rfl (Nat.le_of_ble_eq_true rfl) dX3_output_1 ⟨by show _ ≤ _; simp only [headSpec]; omega, by show _ ≤ _; simp only [headSpec]; omega⟩ ?_
  refine tp_i (show zI (decide (nI 1 = 0 ∨ nI 1 = 1)) = nI 1 from by decide) ?_
  refine lv_if_eq (tgt := 19) hx hb dX3_output_4 (by decide) (fun hc => absurd hc (by decide)) (fun _ => ?_)
  refine lv_aload_n hx hb dX3_output_7 rfl (lv_at hl 0 rfl) ?_
  refine lv_iload_n hx hb dX3_output_8 rfl (lv_at hl 2 rfl) ?_
  refine rd_V (As := [.int (nI lit)]) (rest := []) ⟨hx, hb, hml, hown, hts⟩ (c_X3_isLiteral l D cI cJ hm q0 q1 q2 q3 q4 q5 q6 q7 q8 q9 th nd fs ft mi ml fl gS gX gT gC gO fD gE sp fa (nI lit)) (cwV 1 hts gX3_output_X3_isLiteral rfl rfl rfl (by decide +kernel) ⟨Nat.le_of_ble_eq_true rfl, Nat.le_of_ble_eq_true rfl⟩) (rd_pv (ci := 3) (q0 := 0) hK hP rfl rfl) rfl hl.1 rfl (Nat.le_of_ble_eq_true rfl) dX3_output_9 ⟨by show _ ≤ _; simp only [headSpec]; omega, by show _ ≤ _; simp only [headSpec]; omega⟩ ?_
  refine tp_i (show zI (decide (¬ nI lit < 0 ∧ ¬ nI (2 * nd) ≤ nI lit)) = nI 1 from lit_t h1 (by omega)) ?_
  refine lv_if_eq (tgt := 19) hx hb dX3_output_12 (by decide) (fun hc => absurd hc (by decide)) (fun _ => ?_)
  refine lv_iconst (v := nI 1) hx hb dX3_output_15 (by decide) ?_
  refine lv_goto (tgt := 20) hx hb dX3_output_16 (by decide) ?_
  refine lv_istore_n (lv' := [(3, .int (nI 1)), (0, .ref hm), (1, .int (nI 1)), (2, .int (nI lit))]) hx hb dX3_output_20 rfl hl (by decide) rfl (fun ls hl => ?_)
  refine lv_aload_n hx hb dX3_output_21 rfl (lv_at hl 1 rfl) ?_
  refine lv_iload_n hx hb dX3_output_22 rfl (lv_at hl 0 rfl) ?_
  refine lv_if_ne (tgt := 30) hx hb dX3_output_23 (by decide) (fun _ => ?_) (fun hc => absurd hc (by decide))
  refine lv_aload_n hx hb dX3_output_30 rfl (lv_at hl 1 rfl) ?_
  refine va_get (D := D) (ci := 3) (v := .ref q6) (C := RX3) (T := TX3) (N := 16) hx hb hts hin3 hown hK hP 0 rfl rfl 10 (by decide) kf29 (fun _ h9 => h9) rfl dX3_output_31 ?_
  refine lv_iload_n hx hb dX3_output_34 rfl (lv_at hl 2 rfl) ?_
  refine va_iald hx hb hK hP 7 0 rfl rfl (vp_in_nI (by omega) (by omega)) dX3_output_35 ?_
  refine tp_i (show (fun j => nI (gC j)) (nI 1).toNatClampNeg = nI (gC 1) from congrArg (fun j => nI (gC j)) (nI_clamp (by omega))) ?_
  refine lv_bipush (v := nI 16) hx hb dX3_output_36 (by decide) ?_
  refine lv_icmp_ne (tgt := 45) hx hb dX3_output_38 (by decide) (fun hc => absurd ((nI_eq (by omega) (by omega)).mpr (by omega)) hc) (fun _ => ?_)
  refine lv_iconst (v := nI 2) hx hb dX3_output_41 (by decide) ?_
  refine lv_goto (tgt := 59) hx hb dX3_output_42 (by decide) ?_
  refine va_put (D := D) (ci := 3) (v := .int (nI 2)) (ty := .int) (C := RX3) (T := TX3) (N := 16) hx hb hts hin3 tyX3 tyX3_ok nmX3 hown hK hP hD hS 0 rfl rfl 0 (by decide) kf44 (fun _ h9 => h9) rfl (by decide +kernel) rfl rfl (Nat.le_of_ble_eq_true rfl) dX3_output_59 (fun H locs hP hD hS => ?_)
  have hP : va_P D vwCl [(hm, .inr (3, [.int (nI 2), .int (nI nd), .ref q0, .ref q1, .int (nI mi), .int (nI ml), .ref q2, .ref q3, .ref q4, .ref q5, .ref q6, .ref q7, .ref q8, .ref q9, .int (nI sp), .int fa])), (q0, .inl (cI, 401, .inl fs)), (q1, .inl (cJ, 25664, .inr (.inl ft))), (q2, .inl (cI, 4, .inl fl)), (q3, .inl (cI, 8, .inl (fun j => nI (gS j)))), (q4, .inl (cI, 8, .inl (fun j => nI (gX j)))), (q5, .inl (cI, 8, .inl (fun j => nI (gT j)))), (q6, .inl (cI, 2, .inl (fun j => nI (gC j)))), (q7, .inl (cI, 32, .inl (fun j => nI (gO j)))), (q8, .inl (cI, 32, .inl fD)), (q9, .inl (cI, 2, .inl (fun j => nI (gE j))))] H := hP
  have hD : va_D A [(hm, .inr (3, [.int (nI 2), .int (nI nd), .ref q0, .ref q1, .int (nI mi), .int (nI ml), .ref q2, .ref q3, .ref q4, .ref q5, .ref q6, .ref q7, .ref q8, .ref q9, .int (nI sp), .int fa])), (q0, .inl (cI, 401, .inl fs)), (q1, .inl (cJ, 25664, .inr (.inl ft))), (q2, .inl (cI, 4, .inl fl)), (q3, .inl (cI, 8, .inl (fun j => nI (gS j)))), (q4, .inl (cI, 8, .inl (fun j => nI (gX j)))), (q5, .inl (cI, 8, .inl (fun j => nI (gT j)))), (q6, .inl (cI, 2, .inl (fun j => nI (gC j)))), (q7, .inl (cI, 32, .inl (fun j => nI (gO j)))), (q8, .inl (cI, 32, .inl fD)), (q9, .inl (cI, 2, .inl (fun j => nI (gE j))))] := hD
  refine lv_aload_n hx hb dX3_output_62 rfl (lv_at hl 1 rfl) ?_
  refine va_get (D := D) (ci := 3) (v := .int (nI 2)) (C := RX3) (T := TX3) (N := 16) hx hb hts hin3 hown hK hP 0 rfl rfl 0 (by decide) kf44 (fun _ h9 => h9) rfl dX3_output_63 ?_
  refine lv_if_le (tgt := 71) hx hb dX3_output_66 (by decide) (fun hc => absurd hc (by decide)) (fun _ => ?_)
  refine lv_iconst (v := nI 0) hx hb dX3_output_69 (by decide) ?_
  exact wr_i (()) hx hb hr hlocks hP hD hS dX3_output_70 (rfl) (trivial)
set_option maxHeartbeats 4000000 in
set_option maxRecDepth 100000 in
/-- output: of the other side -/
theorem w_X3_outputB3_1 (lit : Nat) (h1 : lit < 2 * nd) (hnd : nd ≤ 400) (h16 : gC 1 < 16) (ho : ¬ fs (lit / 2) = -1 ∧ ¬ fs (lit / 2) = nI 1) (sz : Nat) : Met l yX3_output wsX3_output { frames := 1, cells := 0, slots := 0, locals := 22 } (wr_P D [(cI, .int), (cJ, .long)] (mW hm q0 q1 q2 q3 q4 q5 q6 q7 q8 q9 cI cJ th nd fs ft mi ml fl gS gX gT gC gO fD gE sp fa) sz tp [.ref hm, .int (nI 1), .int (nI lit)]) (wx (Su := Unit) D [(cI, .int), (cJ, .long)] (va_A (mW hm q0 q1 q2 q3 q4 q5 q6 q7 q8 q9 cI cJ th nd fs ft mi ml fl gS gX gT gC gO fD gE sp fa) sz) (fun _ => some (.int (nI 0))) (fun _ => True) (fun _ => mW hm q0 q1 q2 q3 q4 q5 q6 q7 q8 q9 cI cJ (nI 3) nd fs ft mi ml fl gS gX gT gC gO fD gE sp fa)) 0 0 (va_A (mW hm q0 q1 q2 q3 q4 q5 q6 q7 q8 q9 cI cJ th nd fs ft mi ml fl gS gX gT gC gO fD gE sp fa) sz) := by
  refine Met.ofW (cc := cX3_output) (maxL := 4) (ret := (some .int)) (by decide) rfl ?_
  intro p e s m args below meth c s₁ B hml hv
  obtain ⟨rfl, hsz, ⟨hP, hK, hD0⟩, hE⟩ := hv
  have hx := B.exec
  have hb := B.bytes
  have hr := B.returns
  have hts := atoms_spec (ws := wsX3_output) B.pre
  have hown : s.vm.findClass RX3 = some m.cls := findClass_of_methodNamed B.named
  have hlocks := B.notSynchronized
  subst hsz
  have hD := hD0.self (sz := s.heap.size)
  generalize hAe : va_A (mW hm q0 q1 q2 q3 q4 q5 q6 q7 q8 q9 cI cJ th nd fs ft mi ml fl gS gX gT gC gO fD gE sp fa) s.heap.size = A at hD hE ⊢
  have hA : ∀ q : Nat, s.heap.size ≤ q → A q := fun q h => by rw [← hAe]; exact Or.inr h
  have hS : va_S A s.heap s.heap [] := va_S.rf
  have hP : va_P D vwCl [(hm, .inr (3, [.int th, .int (nI nd), .ref q0, .ref q1, .int (nI mi), .int (nI ml), .ref q2, .ref q3, .ref q4, .ref q5, .ref q6, .ref q7, .ref q8, .ref q9, .int (nI sp), .int fa])), (q0, .inl (cI, 401, .inl fs)), (q1, .inl (cJ, 25664, .inr (.inl ft))), (q2, .inl (cI, 4, .inl fl)), (q3, .inl (cI, 8, .inl (fun j => nI (gS j)))), (q4, .inl (cI, 8, .inl (fun j => nI (gX j)))), (q5, .inl (cI, 8, .inl (fun j => nI (gT j)))), (q6, .inl (cI, 2, .inl (fun j => nI (gC j)))), (q7, .inl (cI, 32, .inl (fun j => nI (gO j)))), (q8, .inl (cI, 32, .inl fD)), (q9, .inl (cI, 2, .inl (fun j => nI (gE j))))] s.heap := hP
  have hD : va_D A [(hm, .inr (3, [.int th, .int (nI nd), .ref q0, .ref q1, .int (nI mi), .int (nI ml), .ref q2, .ref q3, .ref q4, .ref q5, .ref q6, .ref q7, .ref q8, .ref q9, .int (nI sp), .int fa])), (q0, .inl (cI, 401, .inl fs)), (q1, .inl (cJ, 25664, .inr (.inl ft))), (q2, .inl (cI, 4, .inl fl)), (q3, .inl (cI, 8, .inl (fun j => nI (gS j)))), (q4, .inl (cI, 8, .inl (fun j => nI (gX j)))), (q5, .inl (cI, 8, .inl (fun j => nI (gT j)))), (q6, .inl (cI, 2, .inl (fun j => nI (gC j)))), (q7, .inl (cI, 32, .inl (fun j => nI (gO j)))), (q8, .inl (cI, 32, .inl fD)), (q9, .inl (cI, 2, .inl (fun j => nI (gE j))))] := hD
  have hl := lv_entry ([.ref hm, .int (nI 1), .int (nI lit)]) (n := 4) (Nat.le_of_ble_eq_true rfl)
  rw [lg_entry_eq]
  generalize (lg_sl ([.ref hm, .int (nI 1), .int (nI lit)]) ++ List.replicate (4 - (lg_sl ([.ref hm, .int (nI 1), .int (nI lit)])).length) Slot.unset).toArray = ls at hl ⊢
  have hl : lv_has ls 4 [(0, .ref hm), (1, .int (nI 1)), (2, .int (nI lit))] := hl
  have hin3 : ∀ w ∈ wsX30, w ∈ wsX3_output := by decide +kernel
  have kf29 := hts (.fieldLink RX3 29 "SweepEqualModel" "outputCounts" "[I") (by decide +kernel)
  have kf44 := hts (.fieldLink RX3 44 "SweepEqualModel" "thrown" "I") (by decide +kernel)
  have kf32 := hts (.fieldLink RX3 32 "SweepEqualModel" "outputs" "[I") (by decide +kernel)
  refine lv_iload_n hx hb dX3_output_0 rfl (lv_at hl 1 rfl) ?_
  refine rd_S (As := [.int (nI 1)]) (rest := []) ⟨hx, hb, hml, hown, hts⟩ (c_X3_isSide l (nI 1)) (va_cwS 1 hts gX3_output_X3_isSide rfl rfl rfl (by decide +kernel) ⟨Nat.le_of_ble_eq_true rfl, Nat.le_of_ble_eq_true rfl⟩) preEq rfl hl.1 rfl (Nat.le_of_ble_eq_true rfl) dX3_output_1 ⟨by show _ ≤ _; simp only [headSpec]; omega, by show _ ≤ _; simp only [headSpec]; omega⟩ ?_
  refine tp_i (show zI (decide (nI 1 = 0 ∨ nI 1 = 1)) = nI 1 from by decide) ?_
  refine lv_if_eq (tgt := 19) hx hb dX3_output_4 (by decide) (fun hc => absurd hc (by decide)) (fun _ => ?_)
  refine lv_aload_n hx hb dX3_output_7 rfl (lv_at hl 0 rfl) ?_
  refine lv_iload_n hx hb dX3_output_8 rfl (lv_at hl 2 rfl) ?_
  refine rd_V (As := [.int (nI lit)]) (rest := []) ⟨hx, hb, hml, hown, hts⟩ (c_X3_isLiteral l D cI cJ hm q0 q1 q2 q3 q4 q5 q6 q7 q8 q9 th nd fs ft mi ml fl gS gX gT gC gO fD gE sp fa (nI lit)) (cwV 1 hts gX3_output_X3_isLiteral rfl rfl rfl (by decide +kernel) ⟨Nat.le_of_ble_eq_true rfl, Nat.le_of_ble_eq_true rfl⟩) (rd_pv (ci := 3) (q0 := 0) hK hP rfl rfl) rfl hl.1 rfl (Nat.le_of_ble_eq_true rfl) dX3_output_9 ⟨by show _ ≤ _; simp only [headSpec]; omega, by show _ ≤ _; simp only [headSpec]; omega⟩ ?_
  refine tp_i (show zI (decide (¬ nI lit < 0 ∧ ¬ nI (2 * nd) ≤ nI lit)) = nI 1 from lit_t h1 (by omega)) ?_
  refine lv_if_eq (tgt := 19) hx hb dX3_output_12 (by decide) (fun hc => absurd hc (by decide)) (fun _ => ?_)
  refine lv_iconst (v := nI 1) hx hb dX3_output_15 (by decide) ?_
  refine lv_goto (tgt := 20) hx hb dX3_output_16 (by decide) ?_
  refine lv_istore_n (lv' := [(3, .int (nI 1)), (0, .ref hm), (1, .int (nI 1)), (2, .int (nI lit))]) hx hb dX3_output_20 rfl hl (by decide) rfl (fun ls hl => ?_)
  refine lv_aload_n hx hb dX3_output_21 rfl (lv_at hl 1 rfl) ?_
  refine lv_iload_n hx hb dX3_output_22 rfl (lv_at hl 0 rfl) ?_
  refine lv_if_ne (tgt := 30) hx hb dX3_output_23 (by decide) (fun _ => ?_) (fun hc => absurd hc (by decide))
  refine lv_aload_n hx hb dX3_output_30 rfl (lv_at hl 1 rfl) ?_
  refine va_get (D := D) (ci := 3) (v := .ref q6) (C := RX3) (T := TX3) (N := 16) hx hb hts hin3 hown hK hP 0 rfl rfl 10 (by decide) kf29 (fun _ h9 => h9) rfl dX3_output_31 ?_
  refine lv_iload_n hx hb dX3_output_34 rfl (lv_at hl 2 rfl) ?_
  refine va_iald hx hb hK hP 7 0 rfl rfl (vp_in_nI (by omega) (by omega)) dX3_output_35 ?_
  refine tp_i (show (fun j => nI (gC j)) (nI 1).toNatClampNeg = nI (gC 1) from congrArg (fun j => nI (gC j)) (nI_clamp (by omega))) ?_
  refine lv_bipush (v := nI 16) hx hb dX3_output_36 (by decide) ?_
  refine lv_icmp_ne (tgt := 45) hx hb dX3_output_38 (by decide) (fun _ => ?_) (fun hc => absurd ((nI_eq (by omega) (by omega)).mp hc) (by omega))
  refine lv_aload_n hx hb dX3_output_45 rfl (lv_at hl 1 rfl) ?_
  refine lv_iload_n hx hb dX3_output_46 rfl (lv_at hl 2 rfl) ?_
  refine lv_iload_n hx hb dX3_output_47 rfl (lv_at hl 3 rfl) ?_
  refine rd_V (As := [.int (nI 1), .int (nI lit)]) (rest := [.ref hm]) ⟨hx, hb, hml, hown, hts⟩ (c_X3_isOther l D cI cJ hm q0 q1 q2 q3 q4 q5 q6 q7 q8 q9 th nd fs ft mi ml fl gS gX gT gC gO fD gE sp fa (nI 1) lit (by omega)) (cwV 2 hts gX3_output_X3_isOther rfl rfl rfl (by decide +kernel) ⟨Nat.le_of_ble_eq_true rfl, Nat.le_of_ble_eq_true rfl⟩) (rd_pv (ci := 3) (q0 := 0) hK hP rfl rfl) rfl hl.1 rfl (Nat.le_of_ble_eq_true rfl) dX3_output_48 ⟨by show _ ≤ _; simp only [headSpec]; omega, by show _ ≤ _; simp only [headSpec]; omega⟩ ?_
  refine tp_i (show zI (decide (¬ fs (lit / 2) = -1 ∧ ¬ fs (lit / 2) = nI 1)) = nI 1 from zd_1 ho) ?_
  refine lv_if_eq (tgt := 58) hx hb dX3_output_51 (by decide) (fun hc => absurd hc (by decide)) (fun _ => ?_)
  refine lv_iconst (v := nI 3) hx hb dX3_output_54 (by decide) ?_
  refine lv_goto (tgt := 59) hx hb dX3_output_55 (by decide) ?_
  refine va_put (D := D) (ci := 3) (v := .int (nI 3)) (ty := .int) (C := RX3) (T := TX3) (N := 16) hx hb hts hin3 tyX3 tyX3_ok nmX3 hown hK hP hD hS 0 rfl rfl 0 (by decide) kf44 (fun _ h9 => h9) rfl (by decide +kernel) rfl rfl (Nat.le_of_ble_eq_true rfl) dX3_output_59 (fun H locs hP hD hS => ?_)
  have hP : va_P D vwCl [(hm, .inr (3, [.int (nI 3), .int (nI nd), .ref q0, .ref q1, .int (nI mi), .int (nI ml), .ref q2, .ref q3, .ref q4, .ref q5, .ref q6, .ref q7, .ref q8, .ref q9, .int (nI sp), .int fa])), (q0, .inl (cI, 401, .inl fs)), (q1, .inl (cJ, 25664, .inr (.inl ft))), (q2, .inl (cI, 4, .inl fl)), (q3, .inl (cI, 8, .inl (fun j => nI (gS j)))), (q4, .inl (cI, 8, .inl (fun j => nI (gX j)))), (q5, .inl (cI, 8, .inl (fun j => nI (gT j)))), (q6, .inl (cI, 2, .inl (fun j => nI (gC j)))), (q7, .inl (cI, 32, .inl (fun j => nI (gO j)))), (q8, .inl (cI, 32, .inl fD)), (q9, .inl (cI, 2, .inl (fun j => nI (gE j))))] H := hP
  have hD : va_D A [(hm, .inr (3, [.int (nI 3), .int (nI nd), .ref q0, .ref q1, .int (nI mi), .int (nI ml), .ref q2, .ref q3, .ref q4, .ref q5, .ref q6, .ref q7, .ref q8, .ref q9, .int (nI sp), .int fa])), (q0, .inl (cI, 401, .inl fs)), (q1, .inl (cJ, 25664, .inr (.inl ft))), (q2, .inl (cI, 4, .inl fl)), (q3, .inl (cI, 8, .inl (fun j => nI (gS j)))), (q4, .inl (cI, 8, .inl (fun j => nI (gX j)))), (q5, .inl (cI, 8, .inl (fun j => nI (gT j)))), (q6, .inl (cI, 2, .inl (fun j => nI (gC j)))), (q7, .inl (cI, 32, .inl (fun j => nI (gO j)))), (q8, .inl (cI, 32, .inl fD)), (q9, .inl (cI, 2, .inl (fun j => nI (gE j))))] := hD
  refine lv_aload_n hx hb dX3_output_62 rfl (lv_at hl 1 rfl) ?_
  refine va_get (D := D) (ci := 3) (v := .int (nI 3)) (C := RX3) (T := TX3) (N := 16) hx hb hts hin3 hown hK hP 0 rfl rfl 0 (by decide) kf44 (fun _ h9 => h9) rfl dX3_output_63 ?_
  refine lv_if_le (tgt := 71) hx hb dX3_output_66 (by decide) (fun hc => absurd hc (by decide)) (fun _ => ?_)
  refine lv_iconst (v := nI 0) hx hb dX3_output_69 (by decide) ?_
  exact wr_i (()) hx hb hr hlocks hP hD hS dX3_output_70 (rfl) (trivial)
set_option maxHeartbeats 4000000 in
set_option maxRecDepth 100000 in
/-- next: no such side, latch or literal -/
theorem w_X3_nextB1 (sd x y : Int32) (hb0 : ¬ (sd = 0 ∨ sd = 1) ∨ (x < 0 ∨ nI ml ≤ x) ∨ (y < 0 ∨ nI (2 * nd) ≤ y)) (sz : Nat) : Met l yX3_next wsX3_next { frames := 1, cells := 0, slots := 0, locals := 22 } (wr_P D [(cI, .int), (cJ, .long)] (mW hm q0 q1 q2 q3 q4 q5 q6 q7 q8 q9 cI cJ th nd fs ft mi ml fl gS gX gT gC gO fD gE sp fa) sz tp [.ref hm, .int sd, .int x, .int y]) (wx (Su := Unit) D [(cI, .int), (cJ, .long)] (va_A (mW hm q0 q1 q2 q3 q4 q5 q6 q7 q8 q9 cI cJ th nd fs ft mi ml fl gS gX gT gC gO fD gE sp fa) sz) (fun _ => some (.int (nI 0))) (fun _ => True) (fun _ => mW hm q0 q1 q2 q3 q4 q5 q6 q7 q8 q9 cI cJ (nI 1) nd fs ft mi ml fl gS gX gT gC gO fD gE sp fa)) 0 0 (va_A (mW hm q0 q1 q2 q3 q4 q5 q6 q7 q8 q9 cI cJ th nd fs ft mi ml fl gS gX gT gC gO fD gE sp fa) sz) := by
  refine Met.ofW (cc := cX3_next) (maxL := 6) (ret := (some .int)) (by decide) rfl ?_
  intro p e s m args below meth c s₁ B hml hv
  obtain ⟨rfl, hsz, ⟨hP, hK, hD0⟩, hE⟩ := hv
  have hx := B.exec
  have hb := B.bytes
  have hr := B.returns
  have hts := atoms_spec (ws := wsX3_next) B.pre
  have hown : s.vm.findClass RX3 = some m.cls := findClass_of_methodNamed B.named
  have hlocks := B.notSynchronized
  subst hsz
  have hD := hD0.self (sz := s.heap.size)
  generalize hAe : va_A (mW hm q0 q1 q2 q3 q4 q5 q6 q7 q8 q9 cI cJ th nd fs ft mi ml fl gS gX gT gC gO fD gE sp fa) s.heap.size = A at hD hE ⊢
  have hA : ∀ q : Nat, s.heap.size ≤ q → A q := fun q h => by rw [← hAe]; exact Or.inr h
  have hS : va_S A s.heap s.heap [] := va_S.rf
  have hP : va_P D vwCl [(hm, .inr (3, [.int th, .int (nI nd), .ref q0, .ref q1, .int (nI mi), .int (nI ml), .ref q2, .ref q3, .ref q4, .ref q5, .ref q6, .ref q7, .ref q8, .ref q9, .int (nI sp), .int fa])), (q0, .inl (cI, 401, .inl fs)), (q1, .inl (cJ, 25664, .inr (.inl ft))), (q2, .inl (cI, 4, .inl fl)), (q3, .inl (cI, 8, .inl (fun j => nI (gS j)))), (q4, .inl (cI, 8, .inl (fun j => nI (gX j)))), (q5, .inl (cI, 8, .inl (fun j => nI (gT j)))), (q6, .inl (cI, 2, .inl (fun j => nI (gC j)))), (q7, .inl (cI, 32, .inl (fun j => nI (gO j)))), (q8, .inl (cI, 32, .inl fD)), (q9, .inl (cI, 2, .inl (fun j => nI (gE j))))] s.heap := hP
  have hD : va_D A [(hm, .inr (3, [.int th, .int (nI nd), .ref q0, .ref q1, .int (nI mi), .int (nI ml), .ref q2, .ref q3, .ref q4, .ref q5, .ref q6, .ref q7, .ref q8, .ref q9, .int (nI sp), .int fa])), (q0, .inl (cI, 401, .inl fs)), (q1, .inl (cJ, 25664, .inr (.inl ft))), (q2, .inl (cI, 4, .inl fl)), (q3, .inl (cI, 8, .inl (fun j => nI (gS j)))), (q4, .inl (cI, 8, .inl (fun j => nI (gX j)))), (q5, .inl (cI, 8, .inl (fun j => nI (gT j)))), (q6, .inl (cI, 2, .inl (fun j => nI (gC j)))), (q7, .inl (cI, 32, .inl (fun j => nI (gO j)))), (q8, .inl (cI, 32, .inl fD)), (q9, .inl (cI, 2, .inl (fun j => nI (gE j))))] := hD
  have hl := lv_entry ([.ref hm, .int sd, .int x, .int y]) (n := 6) (Nat.le_of_ble_eq_true rfl)
  rw [lg_entry_eq]
  generalize (lg_sl ([.ref hm, .int sd, .int x, .int y]) ++ List.replicate (6 - (lg_sl ([.ref hm, .int sd, .int x, .int y])).length) Slot.unset).toArray = ls at hl ⊢
  have hl : lv_has ls 6 [(0, .ref hm), (1, .int sd), (2, .int x), (3, .int y)] := hl
  have hin3 : ∀ w ∈ wsX30, w ∈ wsX3_next := by decide +kernel
  have kf54 := hts (.fieldLink RX3 54 "SweepEqualModel" "latches" "I") (by decide +kernel)
  have kf44 := hts (.fieldLink RX3 44 "SweepEqualModel" "thrown" "I") (by decide +kernel)
  have kf23 := hts (.fieldLink RX3 23 "SweepEqualModel" "nexts" "[I") (by decide +kernel)
  refine lv_iload_n hx hb dX3_next_0 rfl (lv_at hl 1 rfl) ?_
  refine rd_S (As := [.int sd]) (rest := []) ⟨hx, hb, hml, hown, hts⟩ (c_X3_isSide l sd) (va_cwS 1 hts gX3_next_X3_isSide rfl rfl rfl (by decide +kernel) ⟨Nat.le_of_ble_eq_true rfl, Nat.le_of_ble_eq_true rfl⟩) preEq rfl hl.1 rfl (Nat.le_of_ble_eq_true rfl) dX3_next_1 ⟨by show _ ≤ _; simp only [headSpec]; omega, by show _ ≤ _; simp only [headSpec]; omega⟩ ?_
  refine lv_if_eq (tgt := 30) hx hb dX3_next_4 (by decide) (fun c1 => ?_) (fun c1 => ?_)
  · refine lv_iconst (v := nI 0) hx hb dX3_next_30 (by decide) ?_
    refine lv_istore (lv' := [(4, .int (nI 0)), (0, .ref hm), (1, .int sd), (2, .int x), (3, .int y)]) hx hb dX3_next_31 hl (by decide) rfl (fun ls hl => ?_)
    refine lv_aload_n hx hb dX3_next_33 rfl (lv_at hl 1 rfl) ?_
    refine lv_iload hx hb dX3_next_34 (lv_at hl 0 rfl) ?_
    refine lv_if_ne (tgt := 43) hx hb dX3_next_36 (by decide) (fun hc => absurd hc (by decide)) (fun _ => ?_)
    refine lv_iconst (v := nI 1) hx hb dX3_next_39 (by decide) ?_
    refine lv_goto (tgt := 57) hx hb dX3_next_40 (by decide) ?_
    refine va_put (D := D) (ci := 3) (v := .int (nI 1)) (ty := .int) (C := RX3) (T := TX3) (N := 16) hx hb hts hin3 tyX3 tyX3_ok nmX3 hown hK hP hD hS 0 rfl rfl 0 (by decide) kf44 (fun _ h9 => h9) rfl (by decide +kernel) rfl rfl (Nat.le_of_ble_eq_true rfl) dX3_next_57 (fun H locs hP hD hS => ?_)
    have hP : va_P D vwCl [(hm, .inr (3, [.int (nI 1), .int (nI nd), .ref q0, .ref q1, .int (nI mi), .int (nI ml), .ref q2, .ref q3, .ref q4, .ref q5, .ref q6, .ref q7, .ref q8, .ref q9, .int (nI sp), .int fa])), (q0, .inl (cI, 401, .inl fs)), (q1, .inl (cJ, 25664, .inr (.inl ft))), (q2, .inl (cI, 4, .inl fl)), (q3, .inl (cI, 8, .inl (fun j => nI (gS j)))), (q4, .inl (cI, 8, .inl (fun j => nI (gX j)))), (q5, .inl (cI, 8, .inl (fun j => nI (gT j)))), (q6, .inl (cI, 2, .inl (fun j => nI (gC j)))), (q7, .inl (cI, 32, .inl (fun j => nI (gO j)))), (q8, .inl (cI, 32, .inl fD)), (q9, .inl (cI, 2, .inl (fun j => nI (gE j))))] H := hP
    have hD : va_D A [(hm, .inr (3, [.int (nI 1), .int (nI nd), .ref q0, .ref q1, .int (nI mi), .int (nI ml), .ref q2, .ref q3, .ref q4, .ref q5, .ref q6, .ref q7, .ref q8, .ref q9, .int (nI sp), .int fa])), (q0, .inl (cI, 401, .inl fs)), (q1, .inl (cJ, 25664, .inr (.inl ft))), (q2, .inl (cI, 4, .inl fl)), (q3, .inl (cI, 8, .inl (fun j => nI (gS j)))), (q4, .inl (cI, 8, .inl (fun j => nI (gX j)))), (q5, .inl (cI, 8, .inl (fun j => nI (gT j)))), (q6, .inl (cI, 2, .inl (fun j => nI (gC j)))), (q7, .inl (cI, 32, .inl (fun j => nI (gO j)))), (q8, .inl (cI, 32, .inl fD)), (q9, .inl (cI, 2, .inl (fun j => nI (gE j))))] := hD
    refine lv_aload_n hx hb dX3_next_60 rfl (lv_at hl 1 rfl) ?_
    refine va_get (D := D) (ci := 3) (v := .int (nI 1)) (C := RX3) (T := TX3) (N := 16) hx hb hts hin3 hown hK hP 0 rfl rfl 0 (by decide) kf44 (fun _ h9 => h9) rfl dX3_next_61 ?_
    refine lv_if_le (tgt := 69) hx hb dX3_next_64 (by decide) (fun hc => absurd hc (by decide)) (fun _ => ?_)
    refine lv_iconst (v := nI 0) hx hb dX3_next_67 (by decide) ?_
    exact wr_i (()) hx hb hr hlocks hP hD hS dX3_next_68 (rfl) (trivial)
  · refine lv_iload_n hx hb dX3_next_7 rfl (lv_at hl 2 rfl) ?_
    refine lv_aload_n hx hb dX3_next_8 rfl (lv_at hl 0 rfl) ?_
    refine va_get (D := D) (ci := 3) (v := .int (nI ml)) (C := RX3) (T := TX3) (N := 16) hx hb hts hin3 hown hK hP 0 rfl rfl 5 (by decide) kf54 (fun _ h9 => h9) rfl dX3_next_9 ?_
    refine rd_S (As := [.int x, .int (nI ml)]) (rest := []) ⟨hx, hb, hml, hown, hts⟩ (c_X3_isIn l x (nI ml)) (va_cwS 2 hts gX3_next_X3_isIn rfl rfl rfl (by decide +kernel) ⟨Nat.le_of_ble_eq_true rfl, Nat.le_of_ble_eq_true rfl⟩) preEq rfl hl.1 rfl (Nat.le_of_ble_eq_true rfl) dX3_next_12 ⟨by show _ ≤ _; simp only [headSpec]; omega, by show _ ≤ _; simp only [headSpec]; omega⟩ ?_
    refine lv_if_eq (tgt := 30) hx hb dX3_next_15 (by decide) (fun c2 => ?_) (fun c2 => ?_)
    · refine lv_iconst (v := nI 0) hx hb dX3_next_30 (by decide) ?_
      refine lv_istore (lv' := [(4, .int (nI 0)), (0, .ref hm), (1, .int sd), (2, .int x), (3, .int y)]) hx hb dX3_next_31 hl (by decide) rfl (fun ls hl => ?_)
      refine lv_aload_n hx hb dX3_next_33 rfl (lv_at hl 1 rfl) ?_
      refine lv_iload hx hb dX3_next_34 (lv_at hl 0 rfl) ?_
      refine lv_if_ne (tgt := 43) hx hb dX3_next_36 (by decide) (fun hc => absurd hc (by decide)) (fun _ => ?_)
      refine lv_iconst (v := nI 1) hx hb dX3_next_39 (by decide) ?_
      refine lv_goto (tgt := 57) hx hb dX3_next_40 (by decide) ?_
      refine va_put (D := D) (ci := 3) (v := .int (nI 1)) (ty := .int) (C := RX3) (T := TX3) (N := 16) hx hb hts hin3 tyX3 tyX3_ok nmX3 hown hK hP hD hS 0 rfl rfl 0 (by decide) kf44 (fun _ h9 => h9) rfl (by decide +kernel) rfl rfl (Nat.le_of_ble_eq_true rfl) dX3_next_57 (fun H locs hP hD hS => ?_)
      have hP : va_P D vwCl [(hm, .inr (3, [.int (nI 1), .int (nI nd), .ref q0, .ref q1, .int (nI mi), .int (nI ml), .ref q2, .ref q3, .ref q4, .ref q5, .ref q6, .ref q7, .ref q8, .ref q9, .int (nI sp), .int fa])), (q0, .inl (cI, 401, .inl fs)), (q1, .inl (cJ, 25664, .inr (.inl ft))), (q2, .inl (cI, 4, .inl fl)), (q3, .inl (cI, 8, .inl (fun j => nI (gS j)))), (q4, .inl (cI, 8, .inl (fun j => nI (gX j)))), (q5, .inl (cI, 8, .inl (fun j => nI (gT j)))), (q6, .inl (cI, 2, .inl (fun j => nI (gC j)))), (q7, .inl (cI, 32, .inl (fun j => nI (gO j)))), (q8, .inl (cI, 32, .inl fD)), (q9, .inl (cI, 2, .inl (fun j => nI (gE j))))] H := hP
      have hD : va_D A [(hm, .inr (3, [.int (nI 1), .int (nI nd), .ref q0, .ref q1, .int (nI mi), .int (nI ml), .ref q2, .ref q3, .ref q4, .ref q5, .ref q6, .ref q7, .ref q8, .ref q9, .int (nI sp), .int fa])), (q0, .inl (cI, 401, .inl fs)), (q1, .inl (cJ, 25664, .inr (.inl ft))), (q2, .inl (cI, 4, .inl fl)), (q3, .inl (cI, 8, .inl (fun j => nI (gS j)))), (q4, .inl (cI, 8, .inl (fun j => nI (gX j)))), (q5, .inl (cI, 8, .inl (fun j => nI (gT j)))), (q6, .inl (cI, 2, .inl (fun j => nI (gC j)))), (q7, .inl (cI, 32, .inl (fun j => nI (gO j)))), (q8, .inl (cI, 32, .inl fD)), (q9, .inl (cI, 2, .inl (fun j => nI (gE j))))] := hD
      refine lv_aload_n hx hb dX3_next_60 rfl (lv_at hl 1 rfl) ?_
      refine va_get (D := D) (ci := 3) (v := .int (nI 1)) (C := RX3) (T := TX3) (N := 16) hx hb hts hin3 hown hK hP 0 rfl rfl 0 (by decide) kf44 (fun _ h9 => h9) rfl dX3_next_61 ?_
      refine lv_if_le (tgt := 69) hx hb dX3_next_64 (by decide) (fun hc => absurd hc (by decide)) (fun _ => ?_)
      refine lv_iconst (v := nI 0) hx hb dX3_next_67 (by decide) ?_
      exact wr_i (()) hx hb hr hlocks hP hD hS dX3_next_68 (rfl) (trivial)
    · refine lv_aload_n hx hb dX3_next_18 rfl (lv_at hl 0 rfl) ?_
      refine lv_iload_n hx hb dX3_next_19 rfl (lv_at hl 3 rfl) ?_
      refine rd_V (As := [.int y]) (rest := []) ⟨hx, hb, hml, hown, hts⟩ (c_X3_isLiteral l D cI cJ hm q0 q1 q2 q3 q4 q5 q6 q7 q8 q9 th nd fs ft mi ml fl gS gX gT gC gO fD gE sp fa y) (cwV 1 hts gX3_next_X3_isLiteral rfl rfl rfl (by decide +kernel) ⟨Nat.le_of_ble_eq_true rfl, Nat.le_of_ble_eq_true rfl⟩) (rd_pv (ci := 3) (q0 := 0) hK hP rfl rfl) rfl hl.1 rfl (Nat.le_of_ble_eq_true rfl) dX3_next_20 ⟨by show _ ≤ _; simp only [headSpec]; omega, by show _ ≤ _; simp only [headSpec]; omega⟩ ?_
      refine lv_if_eq (tgt := 30) hx hb dX3_next_23 (by decide) (fun c3 => ?_) (fun c3 => ?_)
      · refine lv_iconst (v := nI 0) hx hb dX3_next_30 (by decide) ?_
        refine lv_istore (lv' := [(4, .int (nI 0)), (0, .ref hm), (1, .int sd), (2, .int x), (3, .int y)]) hx hb dX3_next_31 hl (by decide) rfl (fun ls hl => ?_)
        refine lv_aload_n hx hb dX3_next_33 rfl (lv_at hl 1 rfl) ?_
        refine lv_iload hx hb dX3_next_34 (lv_at hl 0 rfl) ?_
        refine lv_if_ne (tgt := 43) hx hb dX3_next_36 (by decide) (fun hc => absurd hc (by decide)) (fun _ => ?_)
        refine lv_iconst (v := nI 1) hx hb dX3_next_39 (by decide) ?_
        refine lv_goto (tgt := 57) hx hb dX3_next_40 (by decide) ?_
        refine va_put (D := D) (ci := 3) (v := .int (nI 1)) (ty := .int) (C := RX3) (T := TX3) (N := 16) hx hb hts hin3 tyX3 tyX3_ok nmX3 hown hK hP hD hS 0 rfl rfl 0 (by decide) kf44 (fun _ h9 => h9) rfl (by decide +kernel) rfl rfl (Nat.le_of_ble_eq_true rfl) dX3_next_57 (fun H locs hP hD hS => ?_)
        have hP : va_P D vwCl [(hm, .inr (3, [.int (nI 1), .int (nI nd), .ref q0, .ref q1, .int (nI mi), .int (nI ml), .ref q2, .ref q3, .ref q4, .ref q5, .ref q6, .ref q7, .ref q8, .ref q9, .int (nI sp), .int fa])), (q0, .inl (cI, 401, .inl fs)), (q1, .inl (cJ, 25664, .inr (.inl ft))), (q2, .inl (cI, 4, .inl fl)), (q3, .inl (cI, 8, .inl (fun j => nI (gS j)))), (q4, .inl (cI, 8, .inl (fun j => nI (gX j)))), (q5, .inl (cI, 8, .inl (fun j => nI (gT j)))), (q6, .inl (cI, 2, .inl (fun j => nI (gC j)))), (q7, .inl (cI, 32, .inl (fun j => nI (gO j)))), (q8, .inl (cI, 32, .inl fD)), (q9, .inl (cI, 2, .inl (fun j => nI (gE j))))] H := hP
        have hD : va_D A [(hm, .inr (3, [.int (nI 1), .int (nI nd), .ref q0, .ref q1, .int (nI mi), .int (nI ml), .ref q2, .ref q3, .ref q4, .ref q5, .ref q6, .ref q7, .ref q8, .ref q9, .int (nI sp), .int fa])), (q0, .inl (cI, 401, .inl fs)), (q1, .inl (cJ, 25664, .inr (.inl ft))), (q2, .inl (cI, 4, .inl fl)), (q3, .inl (cI, 8, .inl (fun j => nI (gS j)))), (q4, .inl (cI, 8, .inl (fun j => nI (gX j)))), (q5, .inl (cI, 8, .inl (fun j => nI (gT j)))), (q6, .inl (cI, 2, .inl (fun j => nI (gC j)))), (q7, .inl (cI, 32, .inl (fun j => nI (gO j)))), (q8, .inl (cI, 32, .inl fD)), (q9, .inl (cI, 2, .inl (fun j => nI (gE j))))] := hD
        refine lv_aload_n hx hb dX3_next_60 rfl (lv_at hl 1 rfl) ?_
        refine va_get (D := D) (ci := 3) (v := .int (nI 1)) (C := RX3) (T := TX3) (N := 16) hx hb hts hin3 hown hK hP 0 rfl rfl 0 (by decide) kf44 (fun _ h9 => h9) rfl dX3_next_61 ?_
        refine lv_if_le (tgt := 69) hx hb dX3_next_64 (by decide) (fun hc => absurd hc (by decide)) (fun _ => ?_)
        refine lv_iconst (v := nI 0) hx hb dX3_next_67 (by decide) ?_
        exact wr_i (()) hx hb hr hlocks hP hD hS dX3_next_68 (rfl) (trivial)
      · exact (hb0.elim (fun q => q (zd_t c1)) (fun q => q.elim (fun q => q.elim (zd_t c2).1 (zd_t c2).2) (fun q => q.elim (zd_t c3).1 (zd_t c3).2))).elim
set_option maxHeartbeats 4000000 in
set_option maxRecDepth 100000 in
/-- next: of the other side -/
theorem w_X3_nextB2 (sd : Int32) (lt lit : Nat) (hs : sd = 0 ∨ sd = 1) (hlt : lt < ml) (hml9 : ml ≤ 4) (h1 : lit < 2 * nd) (hnd : nd ≤ 400) (ho : ¬ fs (lit / 2) = -1 ∧ ¬ fs (lit / 2) = sd) (sz : Nat) : Met l yX3_next wsX3_next { frames := 1, cells := 0, slots := 0, locals := 22 } (wr_P D [(cI, .int), (cJ, .long)] (mW hm q0 q1 q2 q3 q4 q5 q6 q7 q8 q9 cI cJ th nd fs ft mi ml fl gS gX gT gC gO fD gE sp fa) sz tp [.ref hm, .int sd, .int (nI lt), .int (nI lit)]) (wx (Su := Unit) D [(cI, .int), (cJ, .long)] (va_A (mW hm q0 q1 q2 q3 q4 q5 q6 q7 q8 q9 cI cJ th nd fs ft mi ml fl gS gX gT gC gO fD gE sp fa) sz) (fun _ => some (.int (nI 0))) (fun _ => True) (fun _ => mW hm q0 q1 q2 q3 q4 q5 q6 q7 q8 q9 cI cJ (nI 2) nd fs ft mi ml fl gS gX gT gC gO fD gE sp fa)) 0 0 (va_A (mW hm q0 q1 q2 q3 q4 q5 q6 q7 q8 q9 cI cJ th nd fs ft mi ml fl gS gX gT gC gO fD gE sp fa) sz) := by
  refine Met.ofW (cc := cX3_next) (maxL := 6) (ret := (some .int)) (by decide) rfl ?_
  intro p e s m args below meth c s₁ B hml hv
  obtain ⟨rfl, hsz, ⟨hP, hK, hD0⟩, hE⟩ := hv
  have hx := B.exec
  have hb := B.bytes
  have hr := B.returns
  have hts := atoms_spec (ws := wsX3_next) B.pre
  have hown : s.vm.findClass RX3 = some m.cls := findClass_of_methodNamed B.named
  have hlocks := B.notSynchronized
  subst hsz
  have hD := hD0.self (sz := s.heap.size)
  generalize hAe : va_A (mW hm q0 q1 q2 q3 q4 q5 q6 q7 q8 q9 cI cJ th nd fs ft mi ml fl gS gX gT gC gO fD gE sp fa) s.heap.size = A at hD hE ⊢
  have hA : ∀ q : Nat, s.heap.size ≤ q → A q := fun q h => by rw [← hAe]; exact Or.inr h
  have hS : va_S A s.heap s.heap [] := va_S.rf
  have hP : va_P D vwCl [(hm, .inr (3, [.int th, .int (nI nd), .ref q0, .ref q1, .int (nI mi), .int (nI ml), .ref q2, .ref q3, .ref q4, .ref q5, .ref q6, .ref q7, .ref q8, .ref q9, .int (nI sp), .int fa])), (q0, .inl (cI, 401, .inl fs)), (q1, .inl (cJ, 25664, .inr (.inl ft))), (q2, .inl (cI, 4, .inl fl)), (q3, .inl (cI, 8, .inl (fun j => nI (gS j)))), (q4, .inl (cI, 8, .inl (fun j => nI (gX j)))), (q5, .inl (cI, 8, .inl (fun j => nI (gT j)))), (q6, .inl (cI, 2, .inl (fun j => nI (gC j)))), (q7, .inl (cI, 32, .inl (fun j => nI (gO j)))), (q8, .inl (cI, 32, .inl fD)), (q9, .inl (cI, 2, .inl (fun j => nI (gE j))))] s.heap := hP
  have hD : va_D A [(hm, .inr (3, [.int th, .int (nI nd), .ref q0, .ref q1, .int (nI mi), .int (nI ml), .ref q2, .ref q3, .ref q4, .ref q5, .ref q6, .ref q7, .ref q8, .ref q9, .int (nI sp), .int fa])), (q0, .inl (cI, 401, .inl fs)), (q1, .inl (cJ, 25664, .inr (.inl ft))), (q2, .inl (cI, 4, .inl fl)), (q3, .inl (cI, 8, .inl (fun j => nI (gS j)))), (q4, .inl (cI, 8, .inl (fun j => nI (gX j)))), (q5, .inl (cI, 8, .inl (fun j => nI (gT j)))), (q6, .inl (cI, 2, .inl (fun j => nI (gC j)))), (q7, .inl (cI, 32, .inl (fun j => nI (gO j)))), (q8, .inl (cI, 32, .inl fD)), (q9, .inl (cI, 2, .inl (fun j => nI (gE j))))] := hD
  have hl := lv_entry ([.ref hm, .int sd, .int (nI lt), .int (nI lit)]) (n := 6) (Nat.le_of_ble_eq_true rfl)
  rw [lg_entry_eq]
  generalize (lg_sl ([.ref hm, .int sd, .int (nI lt), .int (nI lit)]) ++ List.replicate (6 - (lg_sl ([.ref hm, .int sd, .int (nI lt), .int (nI lit)])).length) Slot.unset).toArray = ls at hl ⊢
  have hl : lv_has ls 6 [(0, .ref hm), (1, .int sd), (2, .int (nI lt)), (3, .int (nI lit))] := hl
  have hin3 : ∀ w ∈ wsX30, w ∈ wsX3_next := by decide +kernel
  have kf54 := hts (.fieldLink RX3 54 "SweepEqualModel" "latches" "I") (by decide +kernel)
  have kf44 := hts (.fieldLink RX3 44 "SweepEqualModel" "thrown" "I") (by decide +kernel)
  have kf23 := hts (.fieldLink RX3 23 "SweepEqualModel" "nexts" "[I") (by decide +kernel)
  refine lv_iload_n hx hb dX3_next_0 rfl (lv_at hl 1 rfl) ?_
  refine rd_S (As := [.int sd]) (rest := []) ⟨hx, hb, hml, hown, hts⟩ (c_X3_isSide l sd) (va_cwS 1 hts gX3_next_X3_isSide rfl rfl rfl (by decide +kernel) ⟨Nat.le_of_ble_eq_true rfl, Nat.le_of_ble_eq_true rfl⟩) preEq rfl hl.1 rfl (Nat.le_of_ble_eq_true rfl) dX3_next_1 ⟨by show _ ≤ _; simp only [headSpec]; omega, by show _ ≤ _; simp only [headSpec]; omega⟩ ?_
  refine tp_i (show zI (decide (sd = 0 ∨ sd = 1)) = nI 1 from zd_1 hs) ?_
  refine lv_if_eq (tgt := 30) hx hb dX3_next_4 (by decide) (fun hc => absurd hc (by decide)) (fun _ => ?_)
  refine lv_iload_n hx hb dX3_next_7 rfl (lv_at hl 2 rfl) ?_
  refine lv_aload_n hx hb dX3_next_8 rfl (lv_at hl 0 rfl) ?_
  refine va_get (D := D) (ci := 3) (v := .int (nI ml)) (C := RX3) (T := TX3) (N := 16) hx hb hts hin3 hown hK hP 0 rfl rfl 5 (by decide) kf54 (fun _ h9 => h9) rfl dX3_next_9 ?_
  refine rd_S (As := [.int (nI lt), .int (nI ml)]) (rest := []) ⟨hx, hb, hml, hown, hts⟩ (c_X3_isIn l (nI lt) (nI ml)) (va_cwS 2 hts gX3_next_X3_isIn rfl rfl rfl (by decide +kernel) ⟨Nat.le_of_ble_eq_true rfl, Nat.le_of_ble_eq_true rfl⟩) preEq rfl hl.1 rfl (Nat.le_of_ble_eq_true rfl) dX3_next_12 ⟨by show _ ≤ _; simp only [headSpec]; omega, by show _ ≤ _; simp only [headSpec]; omega⟩ ?_
  refine tp_i (show zI (decide (¬ nI lt < 0 ∧ ¬ nI ml ≤ nI lt)) = nI 1 from lit_t hlt (by omega)) ?_
  refine lv_if_eq (tgt := 30) hx hb dX3_next_15 (by decide) (fun hc => absurd hc (by decide)) (fun _ => ?_)
  refine lv_aload_n hx hb dX3_next_18 rfl (lv_at hl 0 rfl) ?_
  refine lv_iload_n hx hb dX3_next_19 rfl (lv_at hl 3 rfl) ?_
  refine rd_V (As := [.int (nI lit)]) (rest := []) ⟨hx, hb, hml, hown, hts⟩ (c_X3_isLiteral l D cI cJ hm q0 q1 q2 q3 q4 q5 q6 q7 q8 q9 th nd fs ft mi ml fl gS gX gT gC gO fD gE sp fa (nI lit)) (cwV 1 hts gX3_next_X3_isLiteral rfl rfl rfl (by decide +kernel) ⟨Nat.le_of_ble_eq_true rfl, Nat.le_of_ble_eq_true rfl⟩) (rd_pv (ci := 3) (q0 := 0) hK hP rfl rfl) rfl hl.1 rfl (Nat.le_of_ble_eq_true rfl) dX3_next_20 ⟨by show _ ≤ _; simp only [headSpec]; omega, by show _ ≤ _; simp only [headSpec]; omega⟩ ?_
  refine tp_i (show zI (decide (¬ nI lit < 0 ∧ ¬ nI (2 * nd) ≤ nI lit)) = nI 1 from lit_t h1 (by omega)) ?_
  refine lv_if_eq (tgt := 30) hx hb dX3_next_23 (by decide) (fun hc => absurd hc (by decide)) (fun _ => ?_)
  refine lv_iconst (v := nI 1) hx hb dX3_next_26 (by decide) ?_
  refine lv_goto (tgt := 31) hx hb dX3_next_27 (by decide) ?_
  refine lv_istore (lv' := [(4, .int (nI 1)), (0, .ref hm), (1, .int sd), (2, .int (nI lt)), (3, .int (nI lit))]) hx hb dX3_next_31 hl (by decide) rfl (fun ls hl => ?_)
  refine lv_aload_n hx hb dX3_next_33 rfl (lv_at hl 1 rfl) ?_
  refine lv_iload hx hb dX3_next_34 (lv_at hl 0 rfl) ?_
  refine lv_if_ne (tgt := 43) hx hb dX3_next_36 (by decide) (fun _ => ?_) (fun hc => absurd hc (by decide))
  refine lv_aload_n hx hb dX3_next_43 rfl (lv_at hl 1 rfl) ?_
  refine lv_iload_n hx hb dX3_next_44 rfl (lv_at hl 2 rfl) ?_
  refine lv_iload_n hx hb dX3_next_45 rfl (lv_at hl 4 rfl) ?_
  refine rd_V (As := [.int sd, .int (nI lit)]) (rest := [.ref hm]) ⟨hx, hb, hml, hown, hts⟩ (c_X3_isOther l D cI cJ hm q0 q1 q2 q3 q4 q5 q6 q7 q8 q9 th nd fs ft mi ml fl gS gX gT gC gO fD gE sp fa sd lit (by omega)) (cwV 2 hts gX3_next_X3_isOther rfl rfl rfl (by decide +kernel) ⟨Nat.le_of_ble_eq_true rfl, Nat.le_of_ble_eq_true rfl⟩) (rd_pv (ci := 3) (q0 := 0) hK hP rfl rfl) rfl hl.1 rfl (Nat.le_of_ble_eq_true rfl) dX3_next_46 ⟨by show _ ≤ _; simp only [headSpec]; omega, by show _ ≤ _; simp only [headSpec]; omega⟩ ?_
  refine tp_i (show zI (decide (¬ fs (lit / 2) = -1 ∧ ¬ fs (lit / 2) = sd)) = nI 1 from zd_1 ho) ?_
  refine lv_if_eq (tgt := 56) hx hb dX3_next_49 (by decide) (fun hc => absurd hc (by decide)) (fun _ => ?_)
  refine lv_iconst (v := nI 2) hx hb dX3_next_52 (by decide) ?_
  refine lv_goto (tgt := 57) hx hb dX3_next_53 (by decide) ?_
  refine va_put (D := D) (ci := 3) (v := .int (nI 2)) (ty := .int) (C := RX3) (T := TX3) (N := 16) hx hb hts hin3 tyX3 tyX3_ok nmX3 hown hK hP hD hS 0 rfl rfl 0 (by decide) kf44 (fun _ h9 => h9) rfl (by decide +kernel) rfl rfl (Nat.le_of_ble_eq_true rfl) dX3_next_57 (fun H locs hP hD hS => ?_)
  have hP : va_P D vwCl [(hm, .inr (3, [.int (nI 2), .int (nI nd), .ref q0, .ref q1, .int (nI mi), .int (nI ml), .ref q2, .ref q3, .ref q4, .ref q5, .ref q6, .ref q7, .ref q8, .ref q9, .int (nI sp), .int fa])), (q0, .inl (cI, 401, .inl fs)), (q1, .inl (cJ, 25664, .inr (.inl ft))), (q2, .inl (cI, 4, .inl fl)), (q3, .inl (cI, 8, .inl (fun j => nI (gS j)))), (q4, .inl (cI, 8, .inl (fun j => nI (gX j)))), (q5, .inl (cI, 8, .inl (fun j => nI (gT j)))), (q6, .inl (cI, 2, .inl (fun j => nI (gC j)))), (q7, .inl (cI, 32, .inl (fun j => nI (gO j)))), (q8, .inl (cI, 32, .inl fD)), (q9, .inl (cI, 2, .inl (fun j => nI (gE j))))] H := hP
  have hD : va_D A [(hm, .inr (3, [.int (nI 2), .int (nI nd), .ref q0, .ref q1, .int (nI mi), .int (nI ml), .ref q2, .ref q3, .ref q4, .ref q5, .ref q6, .ref q7, .ref q8, .ref q9, .int (nI sp), .int fa])), (q0, .inl (cI, 401, .inl fs)), (q1, .inl (cJ, 25664, .inr (.inl ft))), (q2, .inl (cI, 4, .inl fl)), (q3, .inl (cI, 8, .inl (fun j => nI (gS j)))), (q4, .inl (cI, 8, .inl (fun j => nI (gX j)))), (q5, .inl (cI, 8, .inl (fun j => nI (gT j)))), (q6, .inl (cI, 2, .inl (fun j => nI (gC j)))), (q7, .inl (cI, 32, .inl (fun j => nI (gO j)))), (q8, .inl (cI, 32, .inl fD)), (q9, .inl (cI, 2, .inl (fun j => nI (gE j))))] := hD
  refine lv_aload_n hx hb dX3_next_60 rfl (lv_at hl 1 rfl) ?_
  refine va_get (D := D) (ci := 3) (v := .int (nI 2)) (C := RX3) (T := TX3) (N := 16) hx hb hts hin3 hown hK hP 0 rfl rfl 0 (by decide) kf44 (fun _ h9 => h9) rfl dX3_next_61 ?_
  refine lv_if_le (tgt := 69) hx hb dX3_next_64 (by decide) (fun hc => absurd hc (by decide)) (fun _ => ?_)
  refine lv_iconst (v := nI 0) hx hb dX3_next_67 (by decide) ?_
  exact wr_i (()) hx hb hr hlocks hP hD hS dX3_next_68 (rfl) (trivial)
set_option maxHeartbeats 4000000 in
set_option maxRecDepth 100000 in
/-- next of side 0 -/
theorem w_X3_next0 (lt lit : Nat) (hlt : lt < ml) (hml9 : ml ≤ 4) (h1 : lit < 2 * nd) (hnd : nd ≤ 400) (ho : ¬ (¬ fs (lit / 2) = -1 ∧ ¬ fs (lit / 2) = nI 0)) (sz : Nat) : Met l yX3_next wsX3_next { frames := 1, cells := 0, slots := 0, locals := 22 } (wr_P D [(cI, .int), (cJ, .long)] (mW hm q0 q1 q2 q3 q4 q5 q6 q7 q8 q9 cI cJ th nd fs ft mi ml fl gS gX gT gC gO fD gE sp fa) sz tp [.ref hm, .int (nI 0), .int (nI lt), .int (nI lit)]) (wx (Su := Unit) D [(cI, .int), (cJ, .long)] (va_A (mW hm q0 q1 q2 q3 q4 q5 q6 q7 q8 q9 cI cJ th nd fs ft mi ml fl gS gX gT gC gO fD gE sp fa) sz) (fun _ => some (.int (nI (gX (lt))))) (fun _ => True) (fun _ => mW hm q0 q1 q2 q3 q4 q5 q6 q7 q8 q9 cI cJ (nI 0) nd fs ft mi ml fl gS (va_up gX (lt) lit) gT gC gO fD gE sp fa)) 0 0 (va_A (mW hm q0 q1 q2 q3 q4 q5 q6 q7 q8 q9 cI cJ th nd fs ft mi ml fl gS gX gT gC gO fD gE sp fa) sz) := by
  refine Met.ofW (cc := cX3_next) (maxL := 6) (ret := (some .int)) (by decide) rfl ?_
  intro p e s m args below meth c s₁ B hml hv
  obtain ⟨rfl, hsz, ⟨hP, hK, hD0⟩, hE⟩ := hv
  have hx := B.exec
  have hb := B.bytes
  have hr := B.returns
  have hts := atoms_spec (ws := wsX3_next) B.pre
  have hown : s.vm.findClass RX3 = some m.cls := findClass_of_methodNamed B.named
  have hlocks := B.notSynchronized
  subst hsz
  have hD := hD0.self (sz := s.heap.size)
  generalize hAe : va_A (mW hm q0 q1 q2 q3 q4 q5 q6 q7 q8 q9 cI cJ th nd fs ft mi ml fl gS gX gT gC gO fD gE sp fa) s.heap.size = A at hD hE ⊢
  have hA : ∀ q : Nat, s.heap.size ≤ q → A q := fun q h => by rw [← hAe]; exact Or.inr h
  have hS : va_S A s.heap s.heap [] := va_S.rf
  have hP : va_P D vwCl [(hm, .inr (3, [.int th, .int (nI nd), .ref q0, .ref q1, .int (nI mi), .int (nI ml), .ref q2, .ref q3, .ref q4, .ref q5, .ref q6, .ref q7, .ref q8, .ref q9, .int (nI sp), .int fa])), (q0, .inl (cI, 401, .inl fs)), (q1, .inl (cJ, 25664, .inr (.inl ft))), (q2, .inl (cI, 4, .inl fl)), (q3, .inl (cI, 8, .inl (fun j => nI (gS j)))), (q4, .inl (cI, 8, .inl (fun j => nI (gX j)))), (q5, .inl (cI, 8, .inl (fun j => nI (gT j)))), (q6, .inl (cI, 2, .inl (fun j => nI (gC j)))), (q7, .inl (cI, 32, .inl (fun j => nI (gO j)))), (q8, .inl (cI, 32, .inl fD)), (q9, .inl (cI, 2, .inl (fun j => nI (gE j))))] s.heap := hP
  have hD : va_D A [(hm, .inr (3, [.int th, .int (nI nd), .ref q0, .ref q1, .int (nI mi), .int (nI ml), .ref q2, .ref q3, .ref q4, .ref q5, .ref q6, .ref q7, .ref q8, .ref q9, .int (nI sp), .int fa])), (q0, .inl (cI, 401, .inl fs)), (q1, .inl (cJ, 25664, .inr (.inl ft))), (q2, .inl (cI, 4, .inl fl)), (q3, .inl (cI, 8, .inl (fun j => nI (gS j)))), (q4, .inl (cI, 8, .inl (fun j => nI (gX j)))), (q5, .inl (cI, 8, .inl (fun j => nI (gT j)))), (q6, .inl (cI, 2, .inl (fun j => nI (gC j)))), (q7, .inl (cI, 32, .inl (fun j => nI (gO j)))), (q8, .inl (cI, 32, .inl fD)), (q9, .inl (cI, 2, .inl (fun j => nI (gE j))))] := hD
  have hl := lv_entry ([.ref hm, .int (nI 0), .int (nI lt), .int (nI lit)]) (n := 6) (Nat.le_of_ble_eq_true rfl)
  rw [lg_entry_eq]
  generalize (lg_sl ([.ref hm, .int (nI 0), .int (nI lt), .int (nI lit)]) ++ List.replicate (6 - (lg_sl ([.ref hm, .int (nI 0), .int (nI lt), .int (nI lit)])).length) Slot.unset).toArray = ls at hl ⊢
  have hl : lv_has ls 6 [(0, .ref hm), (1, .int (nI 0)), (2, .int (nI lt)), (3, .int (nI lit))] := hl
  have hin3 : ∀ w ∈ wsX30, w ∈ wsX3_next := by decide +kernel
  have kf54 := hts (.fieldLink RX3 54 "SweepEqualModel" "latches" "I") (by decide +kernel)
  have kf44 := hts (.fieldLink RX3 44 "SweepEqualModel" "thrown" "I") (by decide +kernel)
  have kf23 := hts (.fieldLink RX3 23 "SweepEqualModel" "nexts" "[I") (by decide +kernel)
  refine lv_iload_n hx hb dX3_next_0 rfl (lv_at hl 1 rfl) ?_
  refine rd_S (As := [.int (nI 0)]) (rest := []) ⟨hx, hb, hml, hown, hts⟩ (c_X3_isSide l (nI 0)) (va_cwS 1 hts gX3_next_X3_isSide rfl rfl rfl (by decide +kernel) ⟨Nat.le_of_ble_eq_true rfl, Nat.le_of_ble_eq_true rfl⟩) preEq rfl hl.1 rfl (Nat.le_of_ble_eq_true rfl) dX3_next_1 ⟨by show _ ≤ _; simp only [headSpec]; omega, by show _ ≤ _; simp only [headSpec]; omega⟩ ?_
  refine tp_i (show zI (decide (nI 0 = 0 ∨ nI 0 = 1)) = nI 1 from by decide) ?_
  refine lv_if_eq (tgt := 30) hx hb dX3_next_4 (by decide) (fun hc => absurd hc (by decide)) (fun _ => ?_)
  refine lv_iload_n hx hb dX3_next_7 rfl (lv_at hl 2 rfl) ?_
  refine lv_aload_n hx hb dX3_next_8 rfl (lv_at hl 0 rfl) ?_
  refine va_get (D := D) (ci := 3) (v := .int (nI ml)) (C := RX3) (T := TX3) (N := 16) hx hb hts hin3 hown hK hP 0 rfl rfl 5 (by decide) kf54 (fun _ h9 => h9) rfl dX3_next_9 ?_
  refine rd_S (As := [.int (nI lt), .int (nI ml)]) (rest := []) ⟨hx, hb, hml, hown, hts⟩ (c_X3_isIn l (nI lt) (nI ml)) (va_cwS 2 hts gX3_next_X3_isIn rfl rfl rfl (by decide +kernel) ⟨Nat.le_of_ble_eq_true rfl, Nat.le_of_ble_eq_true rfl⟩) preEq rfl hl.1 rfl (Nat.le_of_ble_eq_true rfl) dX3_next_12 ⟨by show _ ≤ _; simp only [headSpec]; omega, by show _ ≤ _; simp only [headSpec]; omega⟩ ?_
  refine tp_i (show zI (decide (¬ nI lt < 0 ∧ ¬ nI ml ≤ nI lt)) = nI 1 from lit_t hlt (by omega)) ?_
  refine lv_if_eq (tgt := 30) hx hb dX3_next_15 (by decide) (fun hc => absurd hc (by decide)) (fun _ => ?_)
  refine lv_aload_n hx hb dX3_next_18 rfl (lv_at hl 0 rfl) ?_
  refine lv_iload_n hx hb dX3_next_19 rfl (lv_at hl 3 rfl) ?_
  refine rd_V (As := [.int (nI lit)]) (rest := []) ⟨hx, hb, hml, hown, hts⟩ (c_X3_isLiteral l D cI cJ hm q0 q1 q2 q3 q4 q5 q6 q7 q8 q9 th nd fs ft mi ml fl gS gX gT gC gO fD gE sp fa (nI lit)) (cwV 1 hts gX3_next_X3_isLiteral rfl rfl rfl (by decide +kernel) ⟨Nat.le_of_ble_eq_true rfl, Nat.le_of_ble_eq_true rfl⟩) (rd_pv (ci := 3) (q0 := 0) hK hP rfl rfl) rfl hl.1 rfl (Nat.le_of_ble_eq_true rfl) dX3_next_20 ⟨by show _ ≤ _; simp only [headSpec]; omega, by show _ ≤ _; simp only [headSpec]; omega⟩ ?_
  refine tp_i (show zI (decide (¬ nI lit < 0 ∧ ¬ nI (2 * nd) ≤ nI lit)) = nI 1 from lit_t h1 (by omega)) ?_
  refine lv_if_eq (tgt := 30) hx hb dX3_next_23 (by decide) (fun hc => absurd hc (by decide)) (fun _ => ?_)
  refine lv_iconst (v := nI 1) hx hb dX3_next_26 (by decide) ?_
  refine lv_goto (tgt := 31) hx hb dX3_next_27 (by decide) ?_
  refine lv_istore (lv' := [(4, .int (nI 1)), (0, .ref hm), (1, .int (nI 0)), (2, .int (nI lt)), (3, .int (nI lit))]) hx hb dX3_next_31 hl (by decide) rfl (fun ls hl => ?_)
  refine lv_aload_n hx hb dX3_next_33 rfl (lv_at hl 1 rfl) ?_
  refine lv_iload hx hb dX3_next_34 (lv_at hl 0 rfl) ?_
  refine lv_if_ne (tgt := 43) hx hb dX3_next_36 (by decide) (fun _ => ?_) (fun hc => absurd hc (by decide))
  refine lv_aload_n hx hb dX3_next_43 rfl (lv_at hl 1 rfl) ?_
  refine lv_iload_n hx hb dX3_next_44 rfl (lv_at hl 2 rfl) ?_
  refine lv_iload_n hx hb dX3_next_45 rfl (lv_at hl 4 rfl) ?_
  refine rd_V (As := [.int (nI 0), .int (nI lit)]) (rest := [.ref hm]) ⟨hx, hb, hml, hown, hts⟩ (c_X3_isOther l D cI cJ hm q0 q1 q2 q3 q4 q5 q6 q7 q8 q9 th nd fs ft mi ml fl gS gX gT gC gO fD gE sp fa (nI 0) lit (by omega)) (cwV 2 hts gX3_next_X3_isOther rfl rfl rfl (by decide +kernel) ⟨Nat.le_of_ble_eq_true rfl, Nat.le_of_ble_eq_true rfl⟩) (rd_pv (ci := 3) (q0 := 0) hK hP rfl rfl) rfl hl.1 rfl (Nat.le_of_ble_eq_true rfl) dX3_next_46 ⟨by show _ ≤ _; simp only [headSpec]; omega, by show _ ≤ _; simp only [headSpec]; omega⟩ ?_
  refine tp_i (show zI (decide (¬ fs (lit / 2) = -1 ∧ ¬ fs (lit / 2) = nI 0)) = nI 0 from zd_0 ho) ?_
  refine lv_if_eq (tgt := 56) hx hb dX3_next_49 (by decide) (fun _ => ?_) (fun hc => absurd hc (by decide))
  refine lv_iconst (v := nI 0) hx hb dX3_next_56 (by decide) ?_
  refine va_put (D := D) (ci := 3) (v := .int (nI 0)) (ty := .int) (C := RX3) (T := TX3) (N := 16) hx hb hts hin3 tyX3 tyX3_ok nmX3 hown hK hP hD hS 0 rfl rfl 0 (by decide) kf44 (fun _ h9 => h9) rfl (by decide +kernel) rfl rfl (Nat.le_of_ble_eq_true rfl) dX3_next_57 (fun H locs hP hD hS => ?_)
  have hP : va_P D vwCl [(hm, .inr (3, [.int (nI 0), .int (nI nd), .ref q0, .ref q1, .int (nI mi), .int (nI ml), .ref q2, .ref q3, .ref q4, .ref q5, .ref q6, .ref q7, .ref q8, .ref q9, .int (nI sp), .int fa])), (q0, .inl (cI, 401, .inl fs)), (q1, .inl (cJ, 25664, .inr (.inl ft))), (q2, .inl (cI, 4, .inl fl)), (q3, .inl (cI, 8, .inl (fun j => nI (gS j)))), (q4, .inl (cI, 8, .inl (fun j => nI (gX j)))), (q5, .inl (cI, 8, .inl (fun j => nI (gT j)))), (q6, .inl (cI, 2, .inl (fun j => nI (gC j)))), (q7, .inl (cI, 32, .inl (fun j => nI (gO j)))), (q8, .inl (cI, 32, .inl fD)), (q9, .inl (cI, 2, .inl (fun j => nI (gE j))))] H := hP
  have hD : va_D A [(hm, .inr (3, [.int (nI 0), .int (nI nd), .ref q0, .ref q1, .int (nI mi), .int (nI ml), .ref q2, .ref q3, .ref q4, .ref q5, .ref q6, .ref q7, .ref q8, .ref q9, .int (nI sp), .int fa])), (q0, .inl (cI, 401, .inl fs)), (q1, .inl (cJ, 25664, .inr (.inl ft))), (q2, .inl (cI, 4, .inl fl)), (q3, .inl (cI, 8, .inl (fun j => nI (gS j)))), (q4, .inl (cI, 8, .inl (fun j => nI (gX j)))), (q5, .inl (cI, 8, .inl (fun j => nI (gT j)))), (q6, .inl (cI, 2, .inl (fun j => nI (gC j)))), (q7, .inl (cI, 32, .inl (fun j => nI (gO j)))), (q8, .inl (cI, 32, .inl fD)), (q9, .inl (cI, 2, .inl (fun j => nI (gE j))))] := hD
  refine lv_aload_n hx hb dX3_next_60 rfl (lv_at hl 1 rfl) ?_
  refine va_get (D := D) (ci := 3) (v := .int (nI 0)) (C := RX3) (T := TX3) (N := 16) hx hb hts hin3 hown hK hP 0 rfl rfl 0 (by decide) kf44 (fun _ h9 => h9) rfl dX3_next_61 ?_
  refine lv_if_le (tgt := 69) hx hb dX3_next_64 (by decide) (fun _ => ?_) (fun hc => absurd hc (by decide))
  refine lv_aload_n hx hb dX3_next_69 rfl (lv_at hl 1 rfl) ?_
  refine va_get (D := D) (ci := 3) (v := .ref q4) (C := RX3) (T := TX3) (N := 16) hx hb hts hin3 hown hK hP 0 rfl rfl 8 (by decide) kf23 (fun _ h9 => h9) rfl dX3_next_70 ?_
  refine lv_iconst (v := nI 4) hx hb dX3_next_73 (by decide) ?_
  refine lv_iload_n hx hb dX3_next_74 rfl (lv_at hl 2 rfl) ?_
  refine lv_imul hx hb dX3_next_75 ?_
  refine tp_i (show (nI 4) * (nI 0) = nI 0 from by decide) ?_
  refine lv_iload_n hx hb dX3_next_76 rfl (lv_at hl 3 rfl) ?_
  refine lv_iadd hx hb dX3_next_77 ?_
  refine tp_i (show (nI 0) + (nI lt) = nI lt from by rw [nI_add, Nat.zero_add]) ?_
  refine va_iald hx hb hK hP 5 0 rfl rfl (vp_in_nI (by omega) (by omega)) dX3_next_78 ?_
  refine tp_i (show (fun j => nI (gX j)) (nI lt).toNatClampNeg = nI (gX lt) from congrArg (fun j => nI (gX j)) (nI_clamp (by omega))) ?_
  refine lv_istore (lv' := [(5, .int (nI (gX lt))), (4, .int (nI 1)), (0, .ref hm), (1, .int (nI 0)), (2, .int (nI lt)), (3, .int (nI lit))]) hx hb dX3_next_79 hl (by decide) rfl (fun ls hl => ?_)
  refine lv_aload_n hx hb dX3_next_81 rfl (lv_at hl 2 rfl) ?_
  refine va_get (D := D) (ci := 3) (v := .ref q4) (C := RX3) (T := TX3) (N := 16) hx hb hts hin3 hown hK hP 0 rfl rfl 8 (by decide) kf23 (fun _ h9 => h9) rfl dX3_next_82 ?_
  refine lv_iconst (v := nI 4) hx hb dX3_next_85 (by decide) ?_
  refine lv_iload_n hx hb dX3_next_86 rfl (lv_at hl 3 rfl) ?_
  refine lv_imul hx hb dX3_next_87 ?_
  refine tp_i (show (nI 4) * (nI 0) = nI 0 from by decide) ?_
  refine lv_iload_n hx hb dX3_next_88 rfl (lv_at hl 4 rfl) ?_
  refine lv_iadd hx hb dX3_next_89 ?_
  refine tp_i (show (nI 0) + (nI lt) = nI lt from by rw [nI_add, Nat.zero_add]) ?_
  refine lv_iload_n hx hb dX3_next_90 rfl (lv_at hl 5 rfl) ?_
  refine va_iast hx hb hK hP hD hS 5 0 rfl rfl (vp_in_nI (by omega) (by omega)) dX3_next_91 (fun H locs hP hD hS => ?_)
  have hP : va_P D vwCl [(hm, .inr (3, [.int (nI 0), .int (nI nd), .ref q0, .ref q1, .int (nI mi), .int (nI ml), .ref q2, .ref q3, .ref q4, .ref q5, .ref q6, .ref q7, .ref q8, .ref q9, .int (nI sp), .int fa])), (q0, .inl (cI, 401, .inl fs)), (q1, .inl (cJ, 25664, .inr (.inl ft))), (q2, .inl (cI, 4, .inl fl)), (q3, .inl (cI, 8, .inl (fun j => nI (gS j)))), (q4, .inl (cI, 8, .inl (upd (fun j => nI (gX j)) (nI lt).toNatClampNeg (nI lit)))), (q5, .inl (cI, 8, .inl (fun j => nI (gT j)))), (q6, .inl (cI, 2, .inl (fun j => nI (gC j)))), (q7, .inl (cI, 32, .inl (fun j => nI (gO j)))), (q8, .inl (cI, 32, .inl fD)), (q9, .inl (cI, 2, .inl (fun j => nI (gE j))))] H := hP
  have hD : va_D A [(hm, .inr (3, [.int (nI 0), .int (nI nd), .ref q0, .ref q1, .int (nI mi), .int (nI ml), .ref q2, .ref q3, .ref q4, .ref q5, .ref q6, .ref q7, .ref q8, .ref q9, .int (nI sp), .int fa])), (q0, .inl (cI, 401, .inl fs)), (q1, .inl (cJ, 25664, .inr (.inl ft))), (q2, .inl (cI, 4, .inl fl)), (q3, .inl (cI, 8, .inl (fun j => nI (gS j)))), (q4, .inl (cI, 8, .inl (upd (fun j => nI (gX j)) (nI lt).toNatClampNeg (nI lit)))), (q5, .inl (cI, 8, .inl (fun j => nI (gT j)))), (q6, .inl (cI, 2, .inl (fun j => nI (gC j)))), (q7, .inl (cI, 32, .inl (fun j => nI (gO j)))), (q8, .inl (cI, 32, .inl fD)), (q9, .inl (cI, 2, .inl (fun j => nI (gE j))))] := hD
  rw [show upd (fun j => nI (gX j)) (nI lt).toNatClampNeg (nI lit) = fun j => nI ((va_up gX lt lit) j) from upN _ (by omega)] at hP hD
  refine lv_iload hx hb dX3_next_92 (lv_at hl 0 rfl) ?_
  exact wr_i (()) hx hb hr hlocks hP hD hS dX3_next_94 (rfl) (trivial)
set_option maxHeartbeats 4000000 in
set_option maxRecDepth 100000 in
/-- next of side 1 -/
theorem w_X3_next1 (lt lit : Nat) (hlt : lt < ml) (hml9 : ml ≤ 4) (h1 : lit < 2 * nd) (hnd : nd ≤ 400) (ho : ¬ (¬ fs (lit / 2) = -1 ∧ ¬ fs (lit / 2) = nI 1)) (sz : Nat) : Met l yX3_next wsX3_next { frames := 1, cells := 0, slots := 0, locals := 22 } (wr_P D [(cI, .int), (cJ, .long)] (mW hm q0 q1 q2 q3 q4 q5 q6 q7 q8 q9 cI cJ th nd fs ft mi ml fl gS gX gT gC gO fD gE sp fa) sz tp [.ref hm, .int (nI 1), .int (nI lt), .int (nI lit)]) (wx (Su := Unit) D [(cI, .int), (cJ, .long)] (va_A (mW hm q0 q1 q2 q3 q4 q5 q6 q7 q8 q9 cI cJ th nd fs ft mi ml fl gS gX gT gC gO fD gE sp fa) sz) (fun _ => some (.int (nI (gX (4 + lt))))) (fun _ => True) (fun _ => mW hm q0 q1 q2 q3 q4 q5 q6 q7 q8 q9 cI cJ (nI 0) nd fs ft mi ml fl gS (va_up gX (4 + lt) lit) gT gC gO fD gE sp fa)) 0 0 (va_A (mW hm q0 q1 q2 q3 q4 q5 q6 q7 q8 q9 cI cJ th nd fs ft mi ml fl gS gX gT gC gO fD gE sp fa) sz) := by
  refine Met.ofW (cc := cX3_next) (maxL := 6) (ret := (some .int)) (by decide) rfl ?_
  intro p e s m args below meth c s₁ B hml hv
  obtain ⟨rfl, hsz, ⟨hP, hK, hD0⟩, hE⟩ := hv
  have hx := B.exec
  have hb := B.bytes
  have hr := B.returns
  have hts := atoms_spec (ws := wsX3_next) B.pre
  have hown : s.vm.findClass RX3 = some m.cls := findClass_of_methodNamed B.named
  have hlocks := B.notSynchronized
  subst hsz
  have hD := hD0.self (sz := s.heap.size)
  generalize hAe : va_A (mW hm q0 q1 q2 q3 q4 q5 q6 q7 q8 q9 cI cJ th nd fs ft mi ml fl gS gX gT gC gO fD gE sp fa) s.heap.size = A at hD hE ⊢
  have hA : ∀ q : Nat, s.heap.size ≤ q → A q := fun q h => by rw [← hAe]; exact Or.inr h
  have hS : va_S A s.heap s.heap [] := va_S.rf
  have hP : va_P D vwCl [(hm, .inr (3, [.int th, .int (nI nd), .ref q0, .ref q1, .int (nI mi), .int (nI ml), .ref q2, .ref q3, .ref q4, .ref q5, .ref q6, .ref q7, .ref q8, .ref q9, .int (nI sp), .int fa])), (q0, .inl (cI, 401, .inl fs)), (q1, .inl (cJ, 25664, .inr (.inl ft))), (q2, .inl (cI, 4, .inl fl)), (q3, .inl (cI, 8, .inl (fun j => nI (gS j)))), (q4, .inl (cI, 8, .inl (fun j => nI (gX j)))), (q5, .inl (cI, 8, .inl (fun j => nI (gT j)))), (q6, .inl (cI, 2, .inl (fun j => nI (gC j)))), (q7, .inl (cI, 32, .inl (fun j => nI (gO j)))), (q8, .inl (cI, 32, .inl fD)), (q9, .inl (cI, 2, .inl (fun j => nI (gE j))))] s.heap := hP
  have hD : va_D A [(hm, .inr (3, [.int th, .int (nI nd), .ref q0, .ref q1, .int (nI mi), .int (nI ml), .ref q2, .ref q3, .ref q4, .ref q5, .ref q6, .ref q7, .ref q8, .ref q9, .int (nI sp), .int fa])), (q0, .inl (cI, 401, .inl fs)), (q1, .inl (cJ, 25664, .inr (.inl ft))), (q2, .inl (cI, 4, .inl fl)), (q3, .inl (cI, 8, .inl (fun j => nI (gS j)))), (q4, .inl (cI, 8, .inl (fun j => nI (gX j)))), (q5, .inl (cI, 8, .inl (fun j => nI (gT j)))), (q6, .inl (cI, 2, .inl (fun j => nI (gC j)))), (q7, .inl (cI, 32, .inl (fun j => nI (gO j)))), (q8, .inl (cI, 32, .inl fD)), (q9, .inl (cI, 2, .inl (fun j => nI (gE j))))] := hD
  have hl := lv_entry ([.ref hm, .int (nI 1), .int (nI lt), .int (nI lit)]) (n := 6) (Nat.le_of_ble_eq_true rfl)
  rw [lg_entry_eq]
  generalize (lg_sl ([.ref hm, .int (nI 1), .int (nI lt), .int (nI lit)]) ++ List.replicate (6 - (lg_sl ([.ref hm, .int (nI 1), .int (nI lt), .int (nI lit)])).length) Slot.unset).toArray = ls at hl ⊢
  have hl : lv_has ls 6 [(0, .ref hm), (1, .int (nI 1)), (2, .int (nI lt)), (3, .int (nI lit))] := hl
  have hin3 : ∀ w ∈ wsX30, w ∈ wsX3_next := by decide +kernel
  have kf54 := hts (.fieldLink RX3 54 "SweepEqualModel" "latches" "I") (by decide +kernel)
  have kf44 := hts (.fieldLink RX3 44 "SweepEqualModel" "thrown" "I") (by decide +kernel)
  have kf23 := hts (.fieldLink RX3 23 "SweepEqualModel" "nexts" "[I") (by decide +kernel)
  refine lv_iload_n hx hb dX3_next_0 rfl (lv_at hl 1 rfl) ?_
  refine rd_S (As := [.int (nI 1)]) (rest := []) ⟨hx, hb, hml, hown, hts⟩ (c_X3_isSide l (nI 1)) (va_cwS 1 hts gX3_next_X3_isSide rfl rfl rfl (by decide +kernel) ⟨Nat.le_of_ble_eq_true rfl, Nat.le_of_ble_eq_true rfl⟩) preEq rfl hl.1 rfl (Nat.le_of_ble_eq_true rfl) dX3_next_1 ⟨by show _ ≤ _; simp only [headSpec]; omega, by show _ ≤ _; simp only [headSpec]; omega⟩ ?_
  refine tp_i (show zI (decide (nI 1 = 0 ∨ nI 1 = 1)) = nI 1 from by decide) ?_
  refine lv_if_eq (tgt := 30) hx hb dX3_next_4 (by decide) (fun hc => absurd hc (by decide)) (fun _ => ?_)
  refine lv_iload_n hx hb dX3_next_7 rfl (lv_at hl 2 rfl) ?_
  refine lv_aload_n hx hb dX3_next_8 rfl (lv_at hl 0 rfl) ?_
  refine va_get (D := D) (ci := 3) (v := .int (nI ml)) (C := RX3) (T := TX3) (N := 16) hx hb hts hin3 hown hK hP 0 rfl rfl 5 (by decide) kf54 (fun _ h9 => h9) rfl dX3_next_9 ?_
  refine rd_S (As := [.int (nI lt), .int (nI ml)]) (rest := []) ⟨hx, hb, hml, hown, hts⟩ (c_X3_isIn l (nI lt) (nI ml)) (va_cwS 2 hts gX3_next_X3_isIn rfl rfl rfl (by decide +kernel) ⟨Nat.le_of_ble_eq_true rfl, Nat.le_of_ble_eq_true rfl⟩) preEq rfl hl.1 rfl (Nat.le_of_ble_eq_true rfl) dX3_next_12 ⟨by show _ ≤ _; simp only [headSpec]; omega, by show _ ≤ _; simp only [headSpec]; omega⟩ ?_
  refine tp_i (show zI (decide (¬ nI lt < 0 ∧ ¬ nI ml ≤ nI lt)) = nI 1 from lit_t hlt (by omega)) ?_
  refine lv_if_eq (tgt := 30) hx hb dX3_next_15 (by decide) (fun hc => absurd hc (by decide)) (fun _ => ?_)
  refine lv_aload_n hx hb dX3_next_18 rfl (lv_at hl 0 rfl) ?_
  refine lv_iload_n hx hb dX3_next_19 rfl (lv_at hl 3 rfl) ?_
  refine rd_V (As := [.int (nI lit)]) (rest := []) ⟨hx, hb, hml, hown, hts⟩ (c_X3_isLiteral l D cI cJ hm q0 q1 q2 q3 q4 q5 q6 q7 q8 q9 th nd fs ft mi ml fl gS gX gT gC gO fD gE sp fa (nI lit)) (cwV 1 hts gX3_next_X3_isLiteral rfl rfl rfl (by decide +kernel) ⟨Nat.le_of_ble_eq_true rfl, Nat.le_of_ble_eq_true rfl⟩) (rd_pv (ci := 3) (q0 := 0) hK hP rfl rfl) rfl hl.1 rfl (Nat.le_of_ble_eq_true rfl) dX3_next_20 ⟨by show _ ≤ _; simp only [headSpec]; omega, by show _ ≤ _; simp only [headSpec]; omega⟩ ?_
  refine tp_i (show zI (decide (¬ nI lit < 0 ∧ ¬ nI (2 * nd) ≤ nI lit)) = nI 1 from lit_t h1 (by omega)) ?_
  refine lv_if_eq (tgt := 30) hx hb dX3_next_23 (by decide) (fun hc => absurd hc (by decide)) (fun _ => ?_)
  refine lv_iconst (v := nI 1) hx hb dX3_next_26 (by decide) ?_
  refine lv_goto (tgt := 31) hx hb dX3_next_27 (by decide) ?_
  refine lv_istore (lv' := [(4, .int (nI 1)), (0, .ref hm), (1, .int (nI 1)), (2, .int (nI lt)), (3, .int (nI lit))]) hx hb dX3_next_31 hl (by decide) rfl (fun ls hl => ?_)
  refine lv_aload_n hx hb dX3_next_33 rfl (lv_at hl 1 rfl) ?_
  refine lv_iload hx hb dX3_next_34 (lv_at hl 0 rfl) ?_
  refine lv_if_ne (tgt := 43) hx hb dX3_next_36 (by decide) (fun _ => ?_) (fun hc => absurd hc (by decide))
  refine lv_aload_n hx hb dX3_next_43 rfl (lv_at hl 1 rfl) ?_
  refine lv_iload_n hx hb dX3_next_44 rfl (lv_at hl 2 rfl) ?_
  refine lv_iload_n hx hb dX3_next_45 rfl (lv_at hl 4 rfl) ?_
  refine rd_V (As := [.int (nI 1), .int (nI lit)]) (rest := [.ref hm]) ⟨hx, hb, hml, hown, hts⟩ (c_X3_isOther l D cI cJ hm q0 q1 q2 q3 q4 q5 q6 q7 q8 q9 th nd fs ft mi ml fl gS gX gT gC gO fD gE sp fa (nI 1) lit (by omega)) (cwV 2 hts gX3_next_X3_isOther rfl rfl rfl (by decide +kernel) ⟨Nat.le_of_ble_eq_true rfl, Nat.le_of_ble_eq_true rfl⟩) (rd_pv (ci := 3) (q0 := 0) hK hP rfl rfl) rfl hl.1 rfl (Nat.le_of_ble_eq_true rfl) dX3_next_46 ⟨by show _ ≤ _; simp only [headSpec]; omega, by show _ ≤ _; simp only [headSpec]; omega⟩ ?_
  refine tp_i (show zI (decide (¬ fs (lit / 2) = -1 ∧ ¬ fs (lit / 2) = nI 1)) = nI 0 from zd_0 ho) ?_
  refine lv_if_eq (tgt := 56) hx hb dX3_next_49 (by decide) (fun _ => ?_) (fun hc => absurd hc (by decide))
  refine lv_iconst (v := nI 0) hx hb dX3_next_56 (by decide) ?_
  refine va_put (D := D) (ci := 3) (v := .int (nI 0)) (ty := .int) (C := RX3) (T := TX3) (N := 16) hx hb hts hin3 tyX3 tyX3_ok nmX3 hown hK hP hD hS 0 rfl rfl 0 (by decide) kf44 (fun _ h9 => h9) rfl (by decide +kernel) rfl rfl (Nat.le_of_ble_eq_true rfl) dX3_next_57 (fun H locs hP hD hS => ?_)
  have hP : va_P D vwCl [(hm, .inr (3, [.int (nI 0), .int (nI nd), .ref q0, .ref q1, .int (nI mi), .int (nI ml), .ref q2, .ref q3, .ref q4, .ref q5, .ref q6, .ref q7, .ref q8, .ref q9, .int (nI sp), .int fa])), (q0, .inl (cI, 401, .inl fs)), (q1, .inl (cJ, 25664, .inr (.inl ft))), (q2, .inl (cI, 4, .inl fl)), (q3, .inl (cI, 8, .inl (fun j => nI (gS j)))), (q4, .inl (cI, 8, .inl (fun j => nI (gX j)))), (q5, .inl (cI, 8, .inl (fun j => nI (gT j)))), (q6, .inl (cI, 2, .inl (fun j => nI (gC j)))), (q7, .inl (cI, 32, .inl (fun j => nI (gO j)))), (q8, .inl (cI, 32, .inl fD)), (q9, .inl (cI, 2, .inl (fun j => nI (gE j))))] H := hP
  have hD : va_D A [(hm, .inr (3, [.int (nI 0), .int (nI nd), .ref q0, .ref q1, .int (nI mi), .int (nI ml), .ref q2, .ref q3, .ref q4, .ref q5, .ref q6, .ref q7, .ref q8, .ref q9, .int (nI sp), .int fa])), (q0, .inl (cI, 401, .inl fs)), (q1, .inl (cJ, 25664, .inr (.inl ft))), (q2, .inl (cI, 4, .inl fl)), (q3, .inl (cI, 8, .inl (fun j => nI (gS j)))), (q4, .inl (cI, 8, .inl (fun j => nI (gX j)))), (q5, .inl (cI, 8, .inl (fun j => nI (gT j)))), (q6, .inl (cI, 2, .inl (fun j => nI (gC j)))), (q7, .inl (cI, 32, .inl (fun j => nI (gO j)))), (q8, .inl (cI, 32, .inl fD)), (q9, .inl (cI, 2, .inl (fun j => nI (gE j))))] := hD
  refine lv_aload_n hx hb dX3_next_60 rfl (lv_at hl 1 rfl) ?_
  refine va_get (D := D) (ci := 3) (v := .int (nI 0)) (C := RX3) (T := TX3) (N := 16) hx hb hts hin3 hown hK hP 0 rfl rfl 0 (by decide) kf44 (fun _ h9 => h9) rfl dX3_next_61 ?_
  refine lv_if_le (tgt := 69) hx hb dX3_next_64 (by decide) (fun _ => ?_) (fun hc => absurd hc (by decide))
  refine lv_aload_n hx hb dX3_next_69 rfl (lv_at hl 1 rfl) ?_
  refine va_get (D := D) (ci := 3) (v := .ref q4) (C := RX3) (T := TX3) (N := 16) hx hb hts hin3 hown hK hP 0 rfl rfl 8 (by decide) kf23 (fun _ h9 => h9) rfl dX3_next_70 ?_
  refine lv_iconst (v := nI 4) hx hb dX3_next_73 (by decide) ?_
  refine lv_iload_n hx hb dX3_next_74 rfl (lv_at hl 2 rfl) ?_
  refine lv_imul hx hb dX3_next_75 ?_
  refine tp_i (show (nI 4) * (nI 1) = nI 4 from by decide) ?_
  refine lv_iload_n hx hb dX3_next_76 rfl (lv_at hl 3 rfl) ?_
  refine lv_iadd hx hb dX3_next_77 ?_
  refine tp_i (show (nI 4) + (nI lt) = nI (4 + lt) from nI_add _ _) ?_
  refine va_iald hx hb hK hP 5 0 rfl rfl (vp_in_nI (by omega) (by omega)) dX3_next_78 ?_
  refine tp_i (show (fun j => nI (gX j)) (nI (4 + lt)).toNatClampNeg = nI (gX (4 + lt)) from congrArg (fun j => nI (gX j)) (nI_clamp (by omega))) ?_
  refine lv_istore (lv' := [(5, .int (nI (gX (4 + lt)))), (4, .int (nI 1)), (0, .ref hm), (1, .int (nI 1)), (2, .int (nI lt)), (3, .int (nI lit))]) hx hb dX3_next_79 hl (by decide) rfl (fun ls hl => ?_)
  refine lv_aload_n hx hb dX3_next_81 rfl (lv_at hl 2 rfl) ?_
  refine va_get (D := D) (ci := 3) (v := .ref q4) (C := RX3) (T := TX3) (N := 16) hx hb hts hin3 hown hK hP 0 rfl rfl 8 (by decide) kf23 (fun _ h9 => h9) rfl dX3_next_82 ?_
  refine lv_iconst (v := nI 4) hx hb dX3_next_85 (by decide) ?_
  refine lv_iload_n hx hb dX3_next_86 rfl (lv_at hl 3 rfl) ?_
  refine lv_imul hx hb dX3_next_87 ?_
  refine tp_i (show (nI 4) * (nI 1) = nI 4 from by decide) ?_
  refine lv_iload_n hx hb dX3_next_88 rfl (lv_at hl 4 rfl) ?_
  refine lv_iadd hx hb dX3_next_89 ?_
  refine tp_i (show (nI 4) + (nI lt) = nI (4 + lt) from nI_add _ _) ?_
  refine lv_iload_n hx hb dX3_next_90 rfl (lv_at hl 5 rfl) ?_
  refine va_iast hx hb hK hP hD hS 5 0 rfl rfl (vp_in_nI (by omega) (by omega)) dX3_next_91 (fun H locs hP hD hS => ?_)
  have hP : va_P D vwCl [(hm, .inr (3, [.int (nI 0), .int (nI nd), .ref q0, .ref q1, .int (nI mi), .int (nI ml), .ref q2, .ref q3, .ref q4, .ref q5, .ref q6, .ref q7, .ref q8, .ref q9, .int (nI sp), .int fa])), (q0, .inl (cI, 401, .inl fs)), (q1, .inl (cJ, 25664, .inr (.inl ft))), (q2, .inl (cI, 4, .inl fl)), (q3, .inl (cI, 8, .inl (fun j => nI (gS j)))), (q4, .inl (cI, 8, .inl (upd (fun j => nI (gX j)) (nI (4 + lt)).toNatClampNeg (nI lit)))), (q5, .inl (cI, 8, .inl (fun j => nI (gT j)))), (q6, .inl (cI, 2, .inl (fun j => nI (gC j)))), (q7, .inl (cI, 32, .inl (fun j => nI (gO j)))), (q8, .inl (cI, 32, .inl fD)), (q9, .inl (cI, 2, .inl (fun j => nI (gE j))))] H := hP
  have hD : va_D A [(hm, .inr (3, [.int (nI 0), .int (nI nd), .ref q0, .ref q1, .int (nI mi), .int (nI ml), .ref q2, .ref q3, .ref q4, .ref q5, .ref q6, .ref q7, .ref q8, .ref q9, .int (nI sp), .int fa])), (q0, .inl (cI, 401, .inl fs)), (q1, .inl (cJ, 25664, .inr (.inl ft))), (q2, .inl (cI, 4, .inl fl)), (q3, .inl (cI, 8, .inl (fun j => nI (gS j)))), (q4, .inl (cI, 8, .inl (upd (fun j => nI (gX j)) (nI (4 + lt)).toNatClampNeg (nI lit)))), (q5, .inl (cI, 8, .inl (fun j => nI (gT j)))), (q6, .inl (cI, 2, .inl (fun j => nI (gC j)))), (q7, .inl (cI, 32, .inl (fun j => nI (gO j)))), (q8, .inl (cI, 32, .inl fD)), (q9, .inl (cI, 2, .inl (fun j => nI (gE j))))] := hD
  rw [show upd (fun j => nI (gX j)) (nI (4 + lt)).toNatClampNeg (nI lit) = fun j => nI ((va_up gX (4 + lt) lit) j) from upN _ (by omega)] at hP hD
  refine lv_iload hx hb dX3_next_92 (lv_at hl 0 rfl) ?_
  exact wr_i (()) hx hb hr hlocks hP hD hS dX3_next_94 (rfl) (trivial)
end MW2
