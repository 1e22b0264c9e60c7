section WDr
variable (l : Launch) (D : va_G) (cI cJ : ClassId) (tp : Nat) (hd ou nx sh oc sc sr ss : Nat) (gO gN : Nat → Nat) (fS : Nat → Int32)
variable (hn ow fi ma ro cnt len : Nat) (fo ff : Nat → Int32) (fk fr : Nat → Int64)
set_option maxHeartbeats 4000000 in
set_option maxRecDepth 100000 in
/-- a step of a side -/
theorem w_X0_runStep (inp : Int32) (lc iv k : Nat) (hiv : inp &&& nI 255 = nI iv) (hk : k = iv ||| ss * 256) (hk2 : k < 4096) (hss : ss < 16) (hlc : lc ≤ 4) (hoc : oc ≤ 16) (hO : ∀ j, j < oc → gO j / 2 * 64 + 63 < len) (hN : ∀ j, j < lc → gN j / 2 * 64 + 63 < len) (h2 : len ≤ 25600) (sz : Nat) : Met l yX0_runStep wsX0_runStep { frames := 2, cells := 0, slots := 0, locals := 47 } (wr_P D [(cI, .int), (cJ, .long)] (dW hd ou nx sh cI oc sc sr ss gO gN fS ++ nW hn ow fi ma ro cI cJ cnt len fo ff fk fr) sz tp [.ref hd, .ref hn, .int inp, .int (nI lc)]) (wx (Su := Unit) D [(cI, .int), (cJ, .long)] (va_A (dW hd ou nx sh cI oc sc sr ss gO gN fS ++ nW hn ow fi ma ro cI cJ cnt len fo ff fk fr) sz) (fun _ => none) (fun _ => True) (fun _ => dW hd ou nx sh cI oc oc sr (stF fr gN k lc) gO gN (shF fr gO fS k oc) ++ nW hn ow fi ma ro cI cJ cnt len fo ff fk fr)) 0 0 (va_A (dW hd ou nx sh cI oc sc sr ss gO gN fS ++ nW hn ow fi ma ro cI cJ cnt len fo ff fk fr) sz) := by
  refine Met.ofW (cc := cX0_runStep) (maxL := 7) (ret := none) (by decide) rfl ?_
  intro p e s m args below meth c s₁ B hml hv
  obtain ⟨rfl, hsz, ⟨hP, hK, hD0⟩, hE⟩ := hv
  have hx := B.exec
  have hb := B.bytes
  have hr := B.returns
  have hts := atoms_spec (ws := wsX0_runStep) B.pre
  have hown : s.vm.findClass RX0 = some m.cls := findClass_of_methodNamed B.named
  have hlocks := B.notSynchronized
  subst hsz
  have hD := hD0.self (sz := s.heap.size)
  generalize hAe : va_A (dW hd ou nx sh cI oc sc sr ss gO gN fS ++ nW hn ow fi ma ro cI cJ cnt len fo ff fk fr) s.heap.size = A at hD hE ⊢
  have hA : ∀ q : Nat, s.heap.size ≤ q → A q := fun q h => by rw [← hAe]; exact Or.inr h
  have hS : va_S A s.heap s.heap [] := va_S.rf
  have hP : va_P D vwCl [(hd, .inr (0, [.ref ou, .ref nx, .ref sh, .int (nI oc), .int (nI sc), .int (nI sr), .int (nI ss)])), (ou, .inl (cI, 16, .inl (fun j => nI (gO j)))), (nx, .inl (cI, 4, .inl (fun j => nI (gN j)))), (sh, .inl (cI, 16, .inl fS)), (hn, .inr (1, [.int (nI cnt), .ref ow, .ref fi, .ref ma, .ref ro])), (ow, .inl (cI, 400, .inl fo)), (fi, .inl (cI, 400, .inl ff)), (ma, .inl (cJ, 400, .inr (.inl fk))), (ro, .inl (cJ, len, .inr (.inl fr)))] s.heap := hP
  have hD : va_D A [(hd, .inr (0, [.ref ou, .ref nx, .ref sh, .int (nI oc), .int (nI sc), .int (nI sr), .int (nI ss)])), (ou, .inl (cI, 16, .inl (fun j => nI (gO j)))), (nx, .inl (cI, 4, .inl (fun j => nI (gN j)))), (sh, .inl (cI, 16, .inl fS)), (hn, .inr (1, [.int (nI cnt), .ref ow, .ref fi, .ref ma, .ref ro])), (ow, .inl (cI, 400, .inl fo)), (fi, .inl (cI, 400, .inl ff)), (ma, .inl (cJ, 400, .inr (.inl fk))), (ro, .inl (cJ, len, .inr (.inl fr)))] := hD
  have hl := lv_entry ([.ref hd, .ref hn, .int inp, .int (nI lc)]) (n := 7) (Nat.le_of_ble_eq_true rfl)
  rw [lg_entry_eq]
  generalize (lg_sl ([.ref hd, .ref hn, .int inp, .int (nI lc)]) ++ List.replicate (7 - (lg_sl ([.ref hd, .ref hn, .int inp, .int (nI lc)])).length) Slot.unset).toArray = ls at hl ⊢
  have hl : lv_has ls 7 [(0, .ref hd), (1, .ref hn), (2, .int inp), (3, .int (nI lc))] := hl
  have hin0 : ∀ w ∈ wsX00, w ∈ wsX0_runStep := by decide +kernel
  have kf28 := hts (.fieldLink RX0 28 "SweepEqual$Design" "states" "I") (by decide +kernel)
  have kf21 := hts (.fieldLink RX0 21 "SweepEqual$Design" "outputCount" "I") (by decide +kernel)
  have kf18 := hts (.fieldLink RX0 18 "SweepEqual$Design" "shown" "[I") (by decide +kernel)
  have kf9 := hts (.fieldLink RX0 9 "SweepEqual$Design" "outputs" "[I") (by decide +kernel)
  have kf31 := hts (.fieldLink RX0 31 "SweepEqual$Design" "shownCount" "I") (by decide +kernel)
  have kf15 := hts (.fieldLink RX0 15 "SweepEqual$Design" "nexts" "[I") (by decide +kernel)
  have hka := and_4095 hk2
  refine lv_iload_n hx hb dX0_runStep_0 rfl (lv_at hl 2 rfl) ?_
  refine lv_sipush (v := nI 255) hx hb dX0_runStep_1 (by decide) ?_
  refine lv_iand hx hb dX0_runStep_4 ?_
  refine tp_i (show inp &&& (nI 255) = nI iv from hiv) ?_
  refine lv_aload_n hx hb dX0_runStep_5 rfl (lv_at hl 0 rfl) ?_
  refine va_get (D := D) (ci := 0) (v := .int (nI ss)) (C := RX0) (T := TX0) (N := 7) hx hb hts hin0 hown hK hP 0 rfl rfl 6 (by decide) kf28 (fun _ h9 => h9) rfl dX0_runStep_6 ?_
  refine lv_bipush (v := nI 8) hx hb dX0_runStep_9 (by decide) ?_
  refine lv_ishl hx hb dX0_runStep_11 ?_
  refine tp_i (show (nI ss) <<< ((nI 8) &&& 31) = nI (ss * 256) from n_shl (by omega) (by omega)) ?_
  refine lv_ior hx hb dX0_runStep_12 ?_
  refine tp_i (show (nI iv) ||| (nI (ss * 256)) = nI k from by rw [hk]; exact n_or _ _) ?_
  refine lv_istore (lv' := [(4, .int (nI k)), (0, .ref hd), (1, .ref hn), (2, .int inp), (3, .int (nI lc))]) hx hb dX0_runStep_13 hl (by decide) rfl (fun ls hl => ?_)
  refine lv_iconst (v := nI 0) hx hb dX0_runStep_15 (by decide) ?_
  refine lv_istore (lv' := [(5, .int (nI 0)), (4, .int (nI k)), (0, .ref hd), (1, .ref hn), (2, .int inp), (3, .int (nI lc))]) hx hb dX0_runStep_16 hl (by decide) rfl (fun ls hl => ?_)
  have loop : ∀ (n : Nat) (i : Nat), i ≤ oc → oc - i < n → ∀ (H : Heap) (locs : List Loc) (ls : Array Slot), va_P D vwCl [(hd, .inr (0, [.ref ou, .ref nx, .ref sh, .int (nI oc), .int (nI sc), .int (nI sr), .int (nI ss)])), (ou, .inl (cI, 16, .inl (fun j => nI (gO j)))), (nx, .inl (cI, 4, .inl (fun j => nI (gN j)))), (sh, .inl (cI, 16, .inl (shF fr gO fS k i))), (hn, .inr (1, [.int (nI cnt), .ref ow, .ref fi, .ref ma, .ref ro])), (ow, .inl (cI, 400, .inl fo)), (fi, .inl (cI, 400, .inl ff)), (ma, .inl (cJ, 400, .inr (.inl fk))), (ro, .inl (cJ, len, .inr (.inl fr)))] H → va_D A [(hd, .inr (0, [.ref ou, .ref nx, .ref sh, .int (nI oc), .int (nI sc), .int (nI sr), .int (nI ss)])), (ou, .inl (cI, 16, .inl (fun j => nI (gO j)))), (nx, .inl (cI, 4, .inl (fun j => nI (gN j)))), (sh, .inl (cI, 16, .inl (shF fr gO fS k i))), (hn, .inr (1, [.int (nI cnt), .ref ow, .ref fi, .ref ma, .ref ro])), (ow, .inl (cI, 400, .inl fo)), (fi, .inl (cI, 400, .inl ff)), (ma, .inl (cJ, 400, .inr (.inl fk))), (ro, .inl (cJ, len, .inr (.inl fr)))] → va_S A s.heap H locs → lv_has ls 7 [(5, .int (nI i)), (4, .int (nI k)), (0, .ref hd), (1, .ref hn), (2, .int inp), (3, .int (nI lc))] → W p l e (headSpec wsX0_runStep { frames := 2, cells := 0, slots := 0, locals := 47 }).room s m ([.ref hd, .ref hn, .int inp, .int (nI lc)] : List Value).toArray below meth c H locs 0 0 (MQ below (wx (Su := Unit) D [(cI, .int), (cJ, .long)] A (fun _ => none) (fun _ => True) (fun _ => dW hd ou nx sh cI oc oc sr (stF fr gN k lc) gO gN (shF fr gO fS k oc) ++ nW hn ow fi ma ro cI cJ cnt len fo ff fk fr)) ([.ref hd, .ref hn, .int inp, .int (nI lc)] : List Value).toArray s 0 0 A) (F0 m 18 ls []) := by
    intro n
    induction n with
    | zero => intro i hi hM; exact absurd hM (Nat.not_lt_zero _)
    | succ n ih =>
      intro i hi hM H locs ls hP hD hS hl
      refine lv_iload hx hb dX0_runStep_18 (lv_at hl 0 rfl) ?_
      refine lv_aload_n hx hb dX0_runStep_20 rfl (lv_at hl 2 rfl) ?_
      refine va_get (D := D) (ci := 0) (v := .int (nI oc)) (C := RX0) (T := TX0) (N := 7) hx hb hts hin0 hown hK hP 0 rfl rfl 3 (by decide) kf21 (fun _ h9 => h9) rfl dX0_runStep_21 ?_
      refine lv_icmp_ge (tgt := 53) hx hb dX0_runStep_24 (by decide) (fun c1 => ?_) (fun c1 => ?_)
      · have c1 : oc ≤ i := (nI_leI (by omega) (by omega)).mp c1
        have hi2 : i = oc := by omega
        rw [hi2] at hP hD
        refine lv_aload_n hx hb dX0_runStep_53 rfl (lv_at hl 2 rfl) ?_
        refine lv_aload_n hx hb dX0_runStep_54 rfl (lv_at hl 2 rfl) ?_
        refine va_get (D := D) (ci := 0) (v := .int (nI oc)) (C := RX0) (T := TX0) (N := 7) hx hb hts hin0 hown hK hP 0 rfl rfl 3 (by decide) kf21 (fun _ h9 => h9) rfl dX0_runStep_55 ?_
        refine va_put (D := D) (ci := 0) (v := .int (nI oc)) (ty := .int) (C := RX0) (T := TX0) (N := 7) hx hb hts hin0 tyX0 tyX0_ok nmX0 hown hK hP hD hS 0 rfl rfl 4 (by decide) kf31 (fun _ h9 => h9) rfl (by decide +kernel) rfl rfl (Nat.le_of_ble_eq_true rfl) dX0_runStep_58 (fun H locs hP hD hS => ?_)
        have hP : va_P D vwCl [(hd, .inr (0, [.ref ou, .ref nx, .ref sh, .int (nI oc), .int (nI oc), .int (nI sr), .int (nI ss)])), (ou, .inl (cI, 16, .inl (fun j => nI (gO j)))), (nx, .inl (cI, 4, .inl (fun j => nI (gN j)))), (sh, .inl (cI, 16, .inl (shF fr gO fS k oc))), (hn, .inr (1, [.int (nI cnt), .ref ow, .ref fi, .ref ma, .ref ro])), (ow, .inl (cI, 400, .inl fo)), (fi, .inl (cI, 400, .inl ff)), (ma, .inl (cJ, 400, .inr (.inl fk))), (ro, .inl (cJ, len, .inr (.inl fr)))] H := hP
        have hD : va_D A [(hd, .inr (0, [.ref ou, .ref nx, .ref sh, .int (nI oc), .int (nI oc), .int (nI sr), .int (nI ss)])), (ou, .inl (cI, 16, .inl (fun j => nI (gO j)))), (nx, .inl (cI, 4, .inl (fun j => nI (gN j)))), (sh, .inl (cI, 16, .inl (shF fr gO fS k oc))), (hn, .inr (1, [.int (nI cnt), .ref ow, .ref fi, .ref ma, .ref ro])), (ow, .inl (cI, 400, .inl fo)), (fi, .inl (cI, 400, .inl ff)), (ma, .inl (cJ, 400, .inr (.inl fk))), (ro, .inl (cJ, len, .inr (.inl fr)))] := hD
        refine lv_iconst (v := nI 0) hx hb dX0_runStep_61 (by decide) ?_
        refine lv_istore (lv' := [(5, .int (nI 0)), (4, .int (nI k)), (0, .ref hd), (1, .ref hn), (2, .int inp), (3, .int (nI lc))]) hx hb dX0_runStep_62 hl (by decide) rfl (fun ls hl => ?_)
        refine lv_iconst (v := nI 0) hx hb dX0_runStep_64 (by decide) ?_
        refine lv_istore (lv' := [(6, .int (nI 0)), (5, .int (nI 0)), (4, .int (nI k)), (0, .ref hd), (1, .ref hn), (2, .int inp), (3, .int (nI lc))]) hx hb dX0_runStep_65 hl (by decide) rfl (fun ls hl => ?_)
        have loop2 : ∀ (n : Nat) (j : Nat), j ≤ lc → lc - j < n → ∀ (H : Heap) (locs : List Loc) (ls : Array Slot), va_P D vwCl [(hd, .inr (0, [.ref ou, .ref nx, .ref sh, .int (nI oc), .int (nI oc), .int (nI sr), .int (nI ss)])), (ou, .inl (cI, 16, .inl (fun j => nI (gO j)))), (nx, .inl (cI, 4, .inl (fun j => nI (gN j)))), (sh, .inl (cI, 16, .inl (shF fr gO fS k oc))), (hn, .inr (1, [.int (nI cnt), .ref ow, .ref fi, .ref ma, .ref ro])), (ow, .inl (cI, 400, .inl fo)), (fi, .inl (cI, 400, .inl ff)), (ma, .inl (cJ, 400, .inr (.inl fk))), (ro, .inl (cJ, len, .inr (.inl fr)))] H → va_D A [(hd, .inr (0, [.ref ou, .ref nx, .ref sh, .int (nI oc), .int (nI oc), .int (nI sr), .int (nI ss)])), (ou, .inl (cI, 16, .inl (fun j => nI (gO j)))), (nx, .inl (cI, 4, .inl (fun j => nI (gN j)))), (sh, .inl (cI, 16, .inl (shF fr gO fS k oc))), (hn, .inr (1, [.int (nI cnt), .ref ow, .ref fi, .ref ma, .ref ro])), (ow, .inl (cI, 400, .inl fo)), (fi, .inl (cI, 400, .inl ff)), (ma, .inl (cJ, 400, .inr (.inl fk))), (ro, .inl (cJ, len, .inr (.inl fr)))] → va_S A s.heap H locs → lv_has ls 7 [(6, .int (nI j)), (5, .int (nI (stF fr gN k j))), (4, .int (nI k)), (0, .ref hd), (1, .ref hn), (2, .int inp), (3, .int (nI lc))] → W p l e (headSpec wsX0_runStep { frames := 2, cells := 0, slots := 0, locals := 47 }).room s m ([.ref hd, .ref hn, .int inp, .int (nI lc)] : List Value).toArray below meth c H locs 0 0 (MQ below (wx (Su := Unit) D [(cI, .int), (cJ, .long)] A (fun _ => none) (fun _ => True) (fun _ => dW hd ou nx sh cI oc oc sr (stF fr gN k lc) gO gN (shF fr gO fS k oc) ++ nW hn ow fi ma ro cI cJ cnt len fo ff fk fr)) ([.ref hd, .ref hn, .int inp, .int (nI lc)] : List Value).toArray s 0 0 A) (F0 m 67 ls []) := by
          intro n
          induction n with
          | zero => intro j hj hM; exact absurd hM (Nat.not_lt_zero _)
          | succ n ih =>
            intro j hj hM H locs ls hP hD hS hl
            have hsl := stF_lt fr gN k j
            have hp : 2 ^ j ≤ 2 ^ 4 := Nat.pow_le_pow_right (by omega) (by omega)
            refine lv_iload hx hb dX0_runStep_67 (lv_at hl 0 rfl) ?_
            refine lv_iload_n hx hb dX0_runStep_69 rfl (lv_at hl 6 rfl) ?_
            refine lv_icmp_ge (tgt := 100) hx hb dX0_runStep_70 (by decide) (fun c2 => ?_) (fun c2 => ?_)
            · have c2 : lc ≤ j := (nI_leI (by omega) (by omega)).mp c2
              have hj2 : j = lc := by omega
              refine lv_aload_n hx hb dX0_runStep_100 rfl (lv_at hl 3 rfl) ?_
              refine lv_iload hx hb dX0_runStep_101 (lv_at hl 1 rfl) ?_
              refine va_put (D := D) (ci := 0) (v := .int (nI (stF fr gN k j))) (ty := .int) (C := RX0) (T := TX0) (N := 7) hx hb hts hin0 tyX0 tyX0_ok nmX0 hown hK hP hD hS 0 rfl rfl 6 (by decide) kf28 (fun _ h9 => h9) rfl (by decide +kernel) rfl rfl (Nat.le_of_ble_eq_true rfl) dX0_runStep_103 (fun H locs hP hD hS => ?_)
              have hP : va_P D vwCl [(hd, .inr (0, [.ref ou, .ref nx, .ref sh, .int (nI oc), .int (nI oc), .int (nI sr), .int (nI (stF fr gN k j))])), (ou, .inl (cI, 16, .inl (fun j => nI (gO j)))), (nx, .inl (cI, 4, .inl (fun j => nI (gN j)))), (sh, .inl (cI, 16, .inl (shF fr gO fS k oc))), (hn, .inr (1, [.int (nI cnt), .ref ow, .ref fi, .ref ma, .ref ro])), (ow, .inl (cI, 400, .inl fo)), (fi, .inl (cI, 400, .inl ff)), (ma, .inl (cJ, 400, .inr (.inl fk))), (ro, .inl (cJ, len, .inr (.inl fr)))] H := hP
              have hD : va_D A [(hd, .inr (0, [.ref ou, .ref nx, .ref sh, .int (nI oc), .int (nI oc), .int (nI sr), .int (nI (stF fr gN k j))])), (ou, .inl (cI, 16, .inl (fun j => nI (gO j)))), (nx, .inl (cI, 4, .inl (fun j => nI (gN j)))), (sh, .inl (cI, 16, .inl (shF fr gO fS k oc))), (hn, .inr (1, [.int (nI cnt), .ref ow, .ref fi, .ref ma, .ref ro])), (ow, .inl (cI, 400, .inl fo)), (fi, .inl (cI, 400, .inl ff)), (ma, .inl (cJ, 400, .inr (.inl fk))), (ro, .inl (cJ, len, .inr (.inl fr)))] := hD
              rw [hj2] at hP hD
              exact wr_v (()) hx hb hr hlocks hP hD hS dX0_runStep_106 (rfl) (trivial)
            · have c2 : ¬ (lc ≤ j) := fun h => c2 ((nI_leI (by omega) (by omega)).mpr h)
              refine lv_iload hx hb dX0_runStep_73 (lv_at hl 1 rfl) ?_
              refine lv_aload_n hx hb dX0_runStep_75 rfl (lv_at hl 4 rfl) ?_
              refine lv_aload_n hx hb dX0_runStep_76 rfl (lv_at hl 3 rfl) ?_
              refine va_get (D := D) (ci := 0) (v := .ref nx) (C := RX0) (T := TX0) (N := 7) hx hb hts hin0 hown hK hP 0 rfl rfl 1 (by decide) kf15 (fun _ h9 => h9) rfl dX0_runStep_77 ?_
              refine lv_iload hx hb dX0_runStep_80 (lv_at hl 0 rfl) ?_
              refine va_iald hx hb hK hP 2 0 rfl rfl (vp_in_nI (by omega) (by omega)) dX0_runStep_82 ?_
              refine tp_i (show (fun j => nI (gN j)) (nI j).toNatClampNeg = nI (gN j) from congrArg (fun j => nI (gN j)) (nI_clamp (by omega))) ?_
              refine lv_iload hx hb dX0_runStep_83 (lv_at hl 2 rfl) ?_
              refine rd_V (As := [.int (nI (gN j)), .int (nI k)]) (rest := [.int (nI (stF fr gN k j))]) ⟨hx, hb, hml, hown, hts⟩ (c_X1_valueIn l D cI cJ hn ow fi ma ro cnt len fo ff fk fr (gN j) (nI k) k hka hk2 (hN j (by omega)) h2) (cwV 2 hts gX0_runStep_X1_valueIn rfl rfl rfl (by decide +kernel) ⟨Nat.le_of_ble_eq_true rfl, Nat.le_of_ble_eq_true rfl⟩) (rd_pv (ci := 1) (q0 := 0) hK (hP.sub (ws' := [(hn, .inr (1, [.int (nI cnt), .ref ow, .ref fi, .ref ma, .ref ro])), (ow, .inl (cI, 400, .inl fo)), (fi, .inl (cI, 400, .inl ff)), (ma, .inl (cJ, 400, .inr (.inl fk))), (ro, .inl (cJ, len, .inr (.inl fr)))]) [4, 5, 6, 7, 8] rfl) rfl rfl) rfl hl.1 rfl (Nat.le_of_ble_eq_true rfl) dX0_runStep_85 ⟨by show _ ≤ _; simp only [headSpec]; omega, by show _ ≤ _; simp only [headSpec]; omega⟩ ?_
              refine lv_iload hx hb dX0_runStep_88 (lv_at hl 0 rfl) ?_
              refine lv_ishl hx hb dX0_runStep_90 ?_
              refine tp_i (show (zI (bt fr (gN j) k)) <<< ((nI j) &&& 31) = nI ((bt fr (gN j) k).toNat * 2 ^ j) from zI_shl (by omega)) ?_
              refine lv_ior hx hb dX0_runStep_91 ?_
              refine tp_i (show (nI (stF fr gN k j)) ||| (nI ((bt fr (gN j) k).toNat * 2 ^ j)) = nI (stF fr gN k j ||| (bt fr (gN j) k).toNat * 2 ^ j) from n_or _ _) ?_
              refine lv_istore (lv' := [(5, .int (nI (stF fr gN k j ||| (bt fr (gN j) k).toNat * 2 ^ j))), (6, .int (nI j)), (4, .int (nI k)), (0, .ref hd), (1, .ref hn), (2, .int inp), (3, .int (nI lc))]) hx hb dX0_runStep_92 hl (by decide) rfl (fun ls hl => ?_)
              refine lv_iinc (v := nI (j + 1)) (lv' := [(6, .int (nI (j + 1))), (5, .int (nI (stF fr gN k j ||| (bt fr (gN j) k).toNat * 2 ^ j))), (4, .int (nI k)), (0, .ref hd), (1, .ref hn), (2, .int inp), (3, .int (nI lc))]) hx hb dX0_runStep_94 hl (k := 1) rfl (nI_add j 1) (by decide) rfl (fun ls hl => ?_)
              refine lv_goto (tgt := 67) hx hb dX0_runStep_97 (by decide) ?_
              exact ih (j + 1) (by omega) (by omega) _ _ ls hP hD hS (by rw [show stF fr gN k (j + 1) = stF fr gN k j ||| (bt fr (gN j) k).toNat * 2 ^ j from rfl]; exact lv_sub hl [0, 1, 2, 3, 4, 5, 6] rfl)
        exact loop2 (lc - 0 + 1) 0 (by omega) (by omega) _ _ ls hP hD hS (lv_sub hl [0, 1, 2, 3, 4, 5, 6] rfl)
      · have c1 : ¬ (oc ≤ i) := fun h => c1 ((nI_leI (by omega) (by omega)).mpr h)
        refine lv_aload_n hx hb dX0_runStep_27 rfl (lv_at hl 2 rfl) ?_
        refine va_get (D := D) (ci := 0) (v := .ref sh) (C := RX0) (T := TX0) (N := 7) hx hb hts hin0 hown hK hP 0 rfl rfl 2 (by decide) kf18 (fun _ h9 => h9) rfl dX0_runStep_28 ?_
        refine lv_iload hx hb dX0_runStep_31 (lv_at hl 0 rfl) ?_
        refine lv_aload_n hx hb dX0_runStep_33 rfl (lv_at hl 3 rfl) ?_
        refine lv_aload_n hx hb dX0_runStep_34 rfl (lv_at hl 2 rfl) ?_
        refine va_get (D := D) (ci := 0) (v := .ref ou) (C := RX0) (T := TX0) (N := 7) hx hb hts hin0 hown hK hP 0 rfl rfl 0 (by decide) kf9 (fun _ h9 => h9) rfl dX0_runStep_35 ?_
        refine lv_iload hx hb dX0_runStep_38 (lv_at hl 0 rfl) ?_
        refine va_iald hx hb hK hP 1 0 rfl rfl (vp_in_nI (by omega) (by omega)) dX0_runStep_40 ?_
        refine tp_i (show (fun j => nI (gO j)) (nI i).toNatClampNeg = nI (gO i) from congrArg (fun j => nI (gO j)) (nI_clamp (by omega))) ?_
        refine lv_iload hx hb dX0_runStep_41 (lv_at hl 1 rfl) ?_
        refine rd_V (As := [.int (nI (gO i)), .int (nI k)]) (rest := [.int (nI i), .ref sh]) ⟨hx, hb, hml, hown, hts⟩ (c_X1_valueIn l D cI cJ hn ow fi ma ro cnt len fo ff fk fr (gO i) (nI k) k hka hk2 (hO i (by omega)) h2) (cwV 2 hts gX0_runStep_X1_valueIn rfl rfl rfl (by decide +kernel) ⟨Nat.le_of_ble_eq_true rfl, Nat.le_of_ble_eq_true rfl⟩) (rd_pv (ci := 1) (q0 := 0) hK (hP.sub (ws' := [(hn, .inr (1, [.int (nI cnt), .ref ow, .ref fi, .ref ma, .ref ro])), (ow, .inl (cI, 400, .inl fo)), (fi, .inl (cI, 400, .inl ff)), (ma, .inl (cJ, 400, .inr (.inl fk))), (ro, .inl (cJ, len, .inr (.inl fr)))]) [4, 5, 6, 7, 8] rfl) rfl rfl) rfl hl.1 rfl (Nat.le_of_ble_eq_true rfl) dX0_runStep_43 ⟨by show _ ≤ _; simp only [headSpec]; omega, by show _ ≤ _; simp only [headSpec]; omega⟩ ?_
        refine va_iast hx hb hK hP hD hS 3 0 rfl rfl (vp_in_nI (by omega) (by omega)) dX0_runStep_46 (fun H locs hP hD hS => ?_)
        have hP : va_P D vwCl [(hd, .inr (0, [.ref ou, .ref nx, .ref sh, .int (nI oc), .int (nI sc), .int (nI sr), .int (nI ss)])), (ou, .inl (cI, 16, .inl (fun j => nI (gO j)))), (nx, .inl (cI, 4, .inl (fun j => nI (gN j)))), (sh, .inl (cI, 16, .inl (upd (shF fr gO fS k i) (nI i).toNatClampNeg (zI (bt fr (gO i) k))))), (hn, .inr (1, [.int (nI cnt), .ref ow, .ref fi, .ref ma, .ref ro])), (ow, .inl (cI, 400, .inl fo)), (fi, .inl (cI, 400, .inl ff)), (ma, .inl (cJ, 400, .inr (.inl fk))), (ro, .inl (cJ, len, .inr (.inl fr)))] H := hP
        have hD : va_D A [(hd, .inr (0, [.ref ou, .ref nx, .ref sh, .int (nI oc), .int (nI sc), .int (nI sr), .int (nI ss)])), (ou, .inl (cI, 16, .inl (fun j => nI (gO j)))), (nx, .inl (cI, 4, .inl (fun j => nI (gN j)))), (sh, .inl (cI, 16, .inl (upd (shF fr gO fS k i) (nI i).toNatClampNeg (zI (bt fr (gO i) k))))), (hn, .inr (1, [.int (nI cnt), .ref ow, .ref fi, .ref ma, .ref ro])), (ow, .inl (cI, 400, .inl fo)), (fi, .inl (cI, 400, .inl ff)), (ma, .inl (cJ, 400, .inr (.inl fk))), (ro, .inl (cJ, len, .inr (.inl fr)))] := hD
        rw [show upd (shF fr gO fS k i) (nI i).toNatClampNeg (zI (bt fr (gO i) k)) = shF fr gO fS k (i + 1) from shF_up (by omega)] at hP hD
        refine lv_iinc (v := nI (i + 1)) (lv' := [(5, .int (nI (i + 1))), (4, .int (nI k)), (0, .ref hd), (1, .ref hn), (2, .int inp), (3, .int (nI lc))]) hx hb dX0_runStep_47 hl (k := 0) rfl (nI_add i 1) (by decide) rfl (fun ls hl => ?_)
        refine lv_goto (tgt := 18) hx hb dX0_runStep_50 (by decide) ?_
        exact ih (i + 1) (by omega) (by omega) _ _ ls hP hD hS (lv_sub hl [0, 1, 2, 3, 4, 5] rfl)
  exact loop (oc - 0 + 1) 0 (by omega) (by omega) _ _ ls (by rw [shF_0]; exact hP) (by rw [shF_0]; exact hD) hS (lv_sub hl [0, 1, 2, 3, 4, 5] rfl)
end WDr
