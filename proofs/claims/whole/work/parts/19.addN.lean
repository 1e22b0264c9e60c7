/-! Nodes: new nodes. -/
theorem grL_ge {cnt len : Nat} (hc : 1 ≤ cnt) (h0 : cnt < 400) (h1 : cnt * 64 ≤ len) (h2 : len ≤ 25600) : (cnt + 1) * 64 ≤ grL cnt len ∧ grL cnt len ≤ 25600 ∧ len ≤ grL cnt len := by
  unfold grL
  split <;> omega
section WA
variable (l : Launch) (D : va_G) (cI cJ : ClassId) (tp : Nat) (hn ow fi ma ro cnt len : Nat) (fo ff : Nat → Int32) (fk fr : Nat → Int64)
set_option maxHeartbeats 4000000 in
set_option maxRecDepth 100000 in
/-- a new variable -/
theorem w_X1_addVariable (b : Nat) (hb2 : b < 12) (hc : 1 ≤ cnt) (h0 : cnt < 400) (h1 : cnt * 64 ≤ len) (h2 : len ≤ 25600) (hfk : ∀ j, j < cnt → fk j = mkF fr j) (sz : Nat) : Met l yX1_addVariable wsX1_addVariable { frames := 5, cells := 1, slots := grS cnt len, locals := 115 } (wr_P D [(cI, .int), (cJ, .long)] (nW hn ow fi ma ro cI cJ cnt len fo ff fk fr) sz tp [.ref hn, .int (nI b)]) (wx (Su := Nat × (Nat → Int64)) D [(cI, .int), (cJ, .long)] (va_A (nW hn ow fi ma ro cI cJ cnt len fo ff fk fr) sz) (fun _ => some (.int (nI (2 * cnt)))) (fun u => (∀ j, j < cnt * 64 → u.2 j = fr j) ∧ ∀ w, w < 64 → u.2 (cnt * 64 + w) = vwF b w) (fun u => nW hn ow fi ma u.1 cI cJ (cnt + 1) (grL cnt len) (upd fo cnt (-1)) (upd ff cnt (ffF u.2 cnt cnt 0)) (vp_updL fk cnt (mkF u.2 cnt)) u.2)) 1 (grS cnt len) (va_A (nW hn ow fi ma ro cI cJ cnt len fo ff fk fr) sz) := by
  refine Met.ofW (cc := cX1_addVariable) (maxL := 4) (ret := (some .int)) (by decide) rfl ?_
  intro p e s m args below meth c s₁ B hml hv
  obtain ⟨rfl, hsz, ⟨hP, hK, hD0⟩, hE⟩ := hv
  have hx := B.exec
  have hb := B.bytes
  have hr := B.returns
  have hts := atoms_spec (ws := wsX1_addVariable) B.pre
  have hown : s.vm.findClass RX1 = some m.cls := findClass_of_methodNamed B.named
  have hlocks := B.notSynchronized
  subst hsz
  have hD := hD0.self (sz := s.heap.size)
  generalize hAe : va_A (nW hn ow fi ma ro cI cJ cnt len fo ff fk fr) s.heap.size = A at hD hE ⊢
  have hA : ∀ q : Nat, s.heap.size ≤ q → A q := fun q h => by rw [← hAe]; exact Or.inr h
  have hS : va_S A s.heap s.heap [] := va_S.rf
  have hP : va_P D vwCl [(hn, .inr (1, [.int (nI cnt), .ref ow, .ref fi, .ref ma, .ref ro])), (ow, .inl (cI, 400, .inl fo)), (fi, .inl (cI, 400, .inl ff)), (ma, .inl (cJ, 400, .inr (.inl fk))), (ro, .inl (cJ, len, .inr (.inl fr)))] s.heap := hP
  have hD : va_D A [(hn, .inr (1, [.int (nI cnt), .ref ow, .ref fi, .ref ma, .ref ro])), (ow, .inl (cI, 400, .inl fo)), (fi, .inl (cI, 400, .inl ff)), (ma, .inl (cJ, 400, .inr (.inl fk))), (ro, .inl (cJ, len, .inr (.inl fr)))] := hD
  have hl := lv_entry ([.ref hn, .int (nI b)]) (n := 4) (Nat.le_of_ble_eq_true rfl)
  rw [lg_entry_eq]
  generalize (lg_sl ([.ref hn, .int (nI b)]) ++ List.replicate (4 - (lg_sl ([.ref hn, .int (nI b)])).length) Slot.unset).toArray = ls at hl ⊢
  have hl : lv_has ls 4 [(0, .ref hn), (1, .int (nI b))] := hl
  have hin1 : ∀ w ∈ wsX10, w ∈ wsX1_addVariable := by decide +kernel
  have kf11 := hts (.fieldLink RX1 11 "SweepEqual$Nodes" "count" "I") (by decide +kernel)
  have kf26 := hts (.fieldLink RX1 26 "SweepEqual$Nodes" "rows" "[J") (by decide +kernel)
  obtain ⟨hg1, hg2, hg3⟩ := grL_ge hc h0 h1 h2
  refine lv_aload_n hx hb dX1_addVariable_0 rfl (lv_at hl 0 rfl) ?_
  refine wr_V (As := []) (rest := []) (wc := [(hn, .inr (1, [.int (nI cnt), .ref ow, .ref fi, .ref ma, .ref ro])), (ow, .inl (cI, 400, .inl fo)), (fi, .inl (cI, 400, .inl ff)), (ma, .inl (cJ, 400, .inr (.inl fk))), (ro, .inl (cJ, len, .inr (.inl fr)))]) (wr := []) (ci := 1) (q0 := 0) ⟨hx, hb, hml, hown, hts⟩ (w_X1_growRows l D cI cJ tp hn ow fi ma ro cnt len fo ff fk fr h0 (by omega) h2 _) (cwV 0 hts gX1_addVariable_X1_growRows rfl rfl rfl (by decide +kernel) ⟨Nat.le_of_ble_eq_true rfl, Nat.le_of_ble_eq_true rfl⟩) rfl rfl rfl hl.1 rfl (Nat.le_of_ble_eq_true rfl) dX1_addVariable_1 ⟨by show _ ≤ _; simp only [headSpec]; omega, by show _ ≤ _; simp only [headSpec]; omega⟩ hK hP hD hS hA hE [0, 1, 2, 3, 4] [] rfl rfl (by decide) (by decide) (by decide) (fun u H locs hu hP hD hS => ?_)
  obtain ⟨ro2, fr2⟩ := u
  have hu : ∀ j, j < len → fr2 j = fr j := hu
  have hP : va_P D vwCl [(hn, .inr (1, [.int (nI cnt), .ref ow, .ref fi, .ref ma, .ref ro2])), (ow, .inl (cI, 400, .inl fo)), (fi, .inl (cI, 400, .inl ff)), (ma, .inl (cJ, 400, .inr (.inl fk))), (ro2, .inl (cJ, (grL cnt len), .inr (.inl fr2)))] H := hP
  have hD : va_D A [(hn, .inr (1, [.int (nI cnt), .ref ow, .ref fi, .ref ma, .ref ro2])), (ow, .inl (cI, 400, .inl fo)), (fi, .inl (cI, 400, .inl ff)), (ma, .inl (cJ, 400, .inr (.inl fk))), (ro2, .inl (cJ, (grL cnt len), .inr (.inl fr2)))] := hD
  have hP := hP.sub (ws' := [(hn, .inr (1, [.int (nI cnt), .ref ow, .ref fi, .ref ma, .ref ro2])), (ow, .inl (cI, 400, .inl fo)), (fi, .inl (cI, 400, .inl ff)), (ma, .inl (cJ, 400, .inr (.inl fk))), (ro2, .inl (cJ, (grL cnt len), .inr (.inl fr2)))]) [0, 1, 2, 3, 4] rfl
  have hD := hD.sub (ws' := [(hn, .inr (1, [.int (nI cnt), .ref ow, .ref fi, .ref ma, .ref ro2])), (ow, .inl (cI, 400, .inl fo)), (fi, .inl (cI, 400, .inl ff)), (ma, .inl (cJ, 400, .inr (.inl fk))), (ro2, .inl (cJ, (grL cnt len), .inr (.inl fr2)))]) [0, 1, 2, 3, 4] (by decide) rfl
  refine W.widen (k := 1) (n := grS cnt len) (by omega) (by omega) ?_
  refine W.eq (g2 := F0 m 4 ls []) rfl ?_
  refine lv_aload_n hx hb dX1_addVariable_4 rfl (lv_at hl 0 rfl) ?_
  refine va_get (D := D) (ci := 1) (v := .int (nI cnt)) (C := RX1) (T := TX1) (N := 5) hx hb hts hin1 hown hK hP 0 rfl rfl 0 (by decide) kf11 (fun _ h9 => h9) rfl dX1_addVariable_5 ?_
  refine lv_bipush (v := nI 64) hx hb dX1_addVariable_8 (by decide) ?_
  refine lv_imul hx hb dX1_addVariable_10 ?_
  refine tp_i (show (nI cnt) * (nI 64) = nI (cnt * 64) from pk_mul _ _) ?_
  refine lv_istore_n (lv' := [(2, .int (nI (cnt * 64))), (0, .ref hn), (1, .int (nI b))]) hx hb dX1_addVariable_11 rfl hl (by decide) rfl (fun ls hl => ?_)
  refine lv_iconst (v := nI 0) hx hb dX1_addVariable_12 (by decide) ?_
  refine lv_istore_n (lv' := [(3, .int (nI 0)), (2, .int (nI (cnt * 64))), (0, .ref hn), (1, .int (nI b))]) hx hb dX1_addVariable_13 rfl hl (by decide) rfl (fun ls hl => ?_)
  have loop : ∀ (n : Nat) (i : Nat), i ≤ 64 → 64 - i < n → ∀ (H : Heap) (locs : List Loc) (ls : Array Slot), va_P D vwCl [(hn, .inr (1, [.int (nI cnt), .ref ow, .ref fi, .ref ma, .ref ro2])), (ow, .inl (cI, 400, .inl fo)), (fi, .inl (cI, 400, .inl ff)), (ma, .inl (cJ, 400, .inr (.inl fk))), (ro2, .inl (cJ, (grL cnt len), .inr (.inl (rwF fr2 cnt (vwF b) i))))] H → va_D A [(hn, .inr (1, [.int (nI cnt), .ref ow, .ref fi, .ref ma, .ref ro2])), (ow, .inl (cI, 400, .inl fo)), (fi, .inl (cI, 400, .inl ff)), (ma, .inl (cJ, 400, .inr (.inl fk))), (ro2, .inl (cJ, (grL cnt len), .inr (.inl (rwF fr2 cnt (vwF b) i))))] → va_S A s.heap H locs → lv_has ls 4 [(3, .int (nI i)), (2, .int (nI (cnt * 64))), (0, .ref hn), (1, .int (nI b))] → W p l e (headSpec wsX1_addVariable { frames := 5, cells := 1, slots := grS cnt len, locals := 115 }).room s m ([.ref hn, .int (nI b)] : List Value).toArray below meth c H locs 1 (grS cnt len) (MQ below (wx (Su := Nat × (Nat → Int64)) D [(cI, .int), (cJ, .long)] A (fun _ => some (.int (nI (2 * cnt)))) (fun u => (∀ j, j < cnt * 64 → u.2 j = fr j) ∧ ∀ w, w < 64 → u.2 (cnt * 64 + w) = vwF b w) (fun u => nW hn ow fi ma u.1 cI cJ (cnt + 1) (grL cnt len) (upd fo cnt (-1)) (upd ff cnt (ffF u.2 cnt cnt 0)) (vp_updL fk cnt (mkF u.2 cnt)) u.2)) ([.ref hn, .int (nI b)] : List Value).toArray s 1 (grS cnt len) A) (F0 m 14 ls []) := by
    intro n
    induction n with
    | zero => intro i hi hM; exact absurd hM (Nat.not_lt_zero _)
    | succ n ih =>
      intro i hi hM H locs ls hP hD hS hl
      refine lv_iload_n hx hb dX1_addVariable_14 rfl (lv_at hl 0 rfl) ?_
      refine lv_bipush (v := nI 64) hx hb dX1_addVariable_15 (by decide) ?_
      refine lv_icmp_ge (tgt := 39) hx hb dX1_addVariable_17 (by decide) (fun c1 => ?_) (fun c1 => ?_)
      · have c1 : 64 ≤ i := (nI_leI (by omega) (by omega)).mp c1
        have hi2 : i = 64 := by omega
        rw [hi2] at hP hD
        refine lv_aload_n hx hb dX1_addVariable_39 rfl (lv_at hl 2 rfl) ?_
        refine lv_iconst (v := -1) hx hb dX1_addVariable_40 (by decide) ?_
        refine wr_V (As := [.int (-1)]) (rest := []) (wc := [(hn, .inr (1, [.int (nI cnt), .ref ow, .ref fi, .ref ma, .ref ro2])), (ow, .inl (cI, 400, .inl fo)), (fi, .inl (cI, 400, .inl ff)), (ma, .inl (cJ, 400, .inr (.inl fk))), (ro2, .inl (cJ, (grL cnt len), .inr (.inl (rwF fr2 cnt (vwF b) 64))))]) (wr := []) (ci := 1) (q0 := 0) ⟨hx, hb, hml, hown, hts⟩ (w_X1_settle l D cI cJ tp hn ow fi ma ro2 cnt (grL cnt len) fo ff fk (rwF fr2 cnt (vwF b) 64) (-1) h0 (by omega) hg2 (fun j hj => (hfk j hj).trans (mk_cg (fun w hw => ((rwF_lo (by omega)).trans (hu _ (by omega))).symm))) _) (cwV 1 hts gX1_addVariable_X1_settle rfl rfl rfl (by decide +kernel) ⟨Nat.le_of_ble_eq_true rfl, Nat.le_of_ble_eq_true rfl⟩) rfl rfl rfl hl.1 rfl (Nat.le_of_ble_eq_true rfl) dX1_addVariable_41 ⟨by show _ ≤ _; simp only [headSpec]; omega, by show _ ≤ _; simp only [headSpec]; omega⟩ hK hP hD hS hA hE [0, 1, 2, 3, 4] [] rfl rfl (by decide) (by decide) (by decide) (fun _u H locs _hu hP hD hS => ?_)
        have hP : va_P D vwCl [(hn, .inr (1, [.int (nI (cnt + 1)), .ref ow, .ref fi, .ref ma, .ref ro2])), (ow, .inl (cI, 400, .inl (upd fo cnt (-1)))), (fi, .inl (cI, 400, .inl (upd ff cnt (ffF (rwF fr2 cnt (vwF b) 64) cnt cnt 0)))), (ma, .inl (cJ, 400, .inr (.inl (vp_updL fk cnt (mkF (rwF fr2 cnt (vwF b) 64) cnt))))), (ro2, .inl (cJ, (grL cnt len), .inr (.inl (rwF fr2 cnt (vwF b) 64))))] H := hP
        have hD : va_D A [(hn, .inr (1, [.int (nI (cnt + 1)), .ref ow, .ref fi, .ref ma, .ref ro2])), (ow, .inl (cI, 400, .inl (upd fo cnt (-1)))), (fi, .inl (cI, 400, .inl (upd ff cnt (ffF (rwF fr2 cnt (vwF b) 64) cnt cnt 0)))), (ma, .inl (cJ, 400, .inr (.inl (vp_updL fk cnt (mkF (rwF fr2 cnt (vwF b) 64) cnt))))), (ro2, .inl (cJ, (grL cnt len), .inr (.inl (rwF fr2 cnt (vwF b) 64))))] := hD
        have hP := hP.sub (ws' := [(hn, .inr (1, [.int (nI (cnt + 1)), .ref ow, .ref fi, .ref ma, .ref ro2])), (ow, .inl (cI, 400, .inl (upd fo cnt (-1)))), (fi, .inl (cI, 400, .inl (upd ff cnt (ffF (rwF fr2 cnt (vwF b) 64) cnt cnt 0)))), (ma, .inl (cJ, 400, .inr (.inl (vp_updL fk cnt (mkF (rwF fr2 cnt (vwF b) 64) cnt))))), (ro2, .inl (cJ, (grL cnt len), .inr (.inl (rwF fr2 cnt (vwF b) 64))))]) [0, 1, 2, 3, 4] rfl
        have hD := hD.sub (ws' := [(hn, .inr (1, [.int (nI (cnt + 1)), .ref ow, .ref fi, .ref ma, .ref ro2])), (ow, .inl (cI, 400, .inl (upd fo cnt (-1)))), (fi, .inl (cI, 400, .inl (upd ff cnt (ffF (rwF fr2 cnt (vwF b) 64) cnt cnt 0)))), (ma, .inl (cJ, 400, .inr (.inl (vp_updL fk cnt (mkF (rwF fr2 cnt (vwF b) 64) cnt))))), (ro2, .inl (cJ, (grL cnt len), .inr (.inl (rwF fr2 cnt (vwF b) 64))))]) [0, 1, 2, 3, 4] (by decide) rfl
        refine W.widen (k := 1) (n := grS cnt len) (by omega) (by omega) ?_
        refine W.eq (g2 := F0 m 44 ls [.int (nI (2 * cnt))]) rfl ?_
        exact wr_i ((ro2, rwF fr2 cnt (vwF b) 64)) hx hb hr hlocks hP hD hS dX1_addVariable_44 (rfl) (⟨fun j hj => (rwF_lo hj).trans (hu j (by omega)), fun w hw => rwF_hi hw⟩)
      · have c1 : ¬ (64 ≤ i) := fun h => c1 ((nI_leI (by omega) (by omega)).mpr h)
        refine lv_aload_n hx hb dX1_addVariable_20 rfl (lv_at hl 2 rfl) ?_
        refine va_get (D := D) (ci := 1) (v := .ref ro2) (C := RX1) (T := TX1) (N := 5) hx hb hts hin1 hown hK hP 0 rfl rfl 4 (by decide) kf26 (fun _ h9 => h9) rfl dX1_addVariable_21 ?_
        refine lv_iload_n hx hb dX1_addVariable_24 rfl (lv_at hl 1 rfl) ?_
        refine lv_iload_n hx hb dX1_addVariable_25 rfl (lv_at hl 0 rfl) ?_
        refine lv_iadd hx hb dX1_addVariable_26 ?_
        refine tp_i (show (nI (cnt * 64)) + (nI i) = nI (cnt * 64 + i) from nI_add _ _) ?_
        refine lv_iload_n hx hb dX1_addVariable_27 rfl (lv_at hl 3 rfl) ?_
        refine lv_iload_n hx hb dX1_addVariable_28 rfl (lv_at hl 0 rfl) ?_
        refine rd_S (As := [.int (nI b), .int (nI i)]) (rest := [.int (nI (cnt * 64 + i)), .ref ro2]) ⟨hx, hb, hml, hown, hts⟩ (c_X1_variableWord l D cI cJ tp b i hb2 (by omega)) (va_cwS 2 hts gX1_addVariable_X1_variableWord rfl rfl rfl (by decide +kernel) ⟨Nat.le_of_ble_eq_true rfl, Nat.le_of_ble_eq_true rfl⟩) (re_ps hK (hP.sub (ws' := []) [] rfl) (hE.at hS)) rfl hl.1 rfl (Nat.le_of_ble_eq_true rfl) dX1_addVariable_29 ⟨by show _ ≤ _; simp only [headSpec]; omega, by show _ ≤ _; simp only [headSpec]; omega⟩ ?_
        refine va_last hx hb hK hP hD hS 4 1 rfl rfl (vp_in_nI (by omega) (by omega)) dX1_addVariable_32 (fun H locs hP hD hS => ?_)
        have hP : va_P D vwCl [(hn, .inr (1, [.int (nI cnt), .ref ow, .ref fi, .ref ma, .ref ro2])), (ow, .inl (cI, 400, .inl fo)), (fi, .inl (cI, 400, .inl ff)), (ma, .inl (cJ, 400, .inr (.inl fk))), (ro2, .inl (cJ, (grL cnt len), .inr (.inl (vp_updL (rwF fr2 cnt (vwF b) i) (nI (cnt * 64 + i)).toNatClampNeg (vwF b i)))))] H := hP
        have hD : va_D A [(hn, .inr (1, [.int (nI cnt), .ref ow, .ref fi, .ref ma, .ref ro2])), (ow, .inl (cI, 400, .inl fo)), (fi, .inl (cI, 400, .inl ff)), (ma, .inl (cJ, 400, .inr (.inl fk))), (ro2, .inl (cJ, (grL cnt len), .inr (.inl (vp_updL (rwF fr2 cnt (vwF b) i) (nI (cnt * 64 + i)).toNatClampNeg (vwF b i)))))] := hD
        rw [show vp_updL (rwF fr2 cnt (vwF b) i) (nI (cnt * 64 + i)).toNatClampNeg (vwF b i) = rwF fr2 cnt (vwF b) (i + 1) from rwF_up (by omega) rfl] at hP hD
        refine lv_iinc (v := nI (i + 1)) (lv' := [(3, .int (nI (i + 1))), (2, .int (nI (cnt * 64))), (0, .ref hn), (1, .int (nI b))]) hx hb dX1_addVariable_33 hl (k := 0) rfl (nI_add i 1) (by decide) rfl (fun ls hl => ?_)
        refine lv_goto (tgt := 14) hx hb dX1_addVariable_36 (by decide) ?_
        exact ih (i + 1) (by omega) (by omega) _ _ ls hP hD hS (lv_sub hl [0, 1, 2, 3] rfl)
  exact loop (64 - 0 + 1) 0 (by omega) (by omega) _ _ ls (by rw [rwF_0]; exact hP) (by rw [rwF_0]; exact hD) hS (lv_sub hl [0, 1, 2, 3] rfl)
set_option maxHeartbeats 4000000 in
set_option maxRecDepth 100000 in
/-- a new AND -/
theorem w_X1_addAnd (sd : Int32) (la lb : Nat) (ha : la / 2 < cnt) (hb2 : lb / 2 < cnt) (hc : 1 ≤ cnt) (h0 : cnt < 400) (h1 : cnt * 64 ≤ len) (h2 : len ≤ 25600) (hfk : ∀ j, j < cnt → fk j = mkF fr j) (sz : Nat) : Met l yX1_addAnd wsX1_addAnd { frames := 5, cells := 1, slots := grS cnt len, locals := 115 } (wr_P D [(cI, .int), (cJ, .long)] (nW hn ow fi ma ro cI cJ cnt len fo ff fk fr) sz tp [.ref hn, .int sd, .int (nI la), .int (nI lb)]) (wx (Su := Nat × (Nat → Int64)) D [(cI, .int), (cJ, .long)] (va_A (nW hn ow fi ma ro cI cJ cnt len fo ff fk fr) sz) (fun _ => some (.int (nI (2 * cnt)))) (fun u => (∀ j, j < cnt * 64 → u.2 j = fr j) ∧ ∀ w, w < 64 → u.2 (cnt * 64 + w) = wd fr la w &&& wd fr lb w) (fun u => nW hn ow fi ma u.1 cI cJ (cnt + 1) (grL cnt len) (upd fo cnt sd) (upd ff cnt (ffF u.2 cnt cnt 0)) (vp_updL fk cnt (mkF u.2 cnt)) u.2)) 1 (grS cnt len) (va_A (nW hn ow fi ma ro cI cJ cnt len fo ff fk fr) sz) := by
  refine Met.ofW (cc := cX1_addAnd) (maxL := 6) (ret := (some .int)) (by decide) rfl ?_
  intro p e s m args below meth c s₁ B hml hv
  obtain ⟨rfl, hsz, ⟨hP, hK, hD0⟩, hE⟩ := hv
  have hx := B.exec
  have hb := B.bytes
  have hr := B.returns
  have hts := atoms_spec (ws := wsX1_addAnd) B.pre
  have hown : s.vm.findClass RX1 = some m.cls := findClass_of_methodNamed B.named
  have hlocks := B.notSynchronized
  subst hsz
  have hD := hD0.self (sz := s.heap.size)
  generalize hAe : va_A (nW hn ow fi ma ro cI cJ cnt len fo ff fk fr) s.heap.size = A at hD hE ⊢
  have hA : ∀ q : Nat, s.heap.size ≤ q → A q := fun q h => by rw [← hAe]; exact Or.inr h
  have hS : va_S A s.heap s.heap [] := va_S.rf
  have hP : va_P D vwCl [(hn, .inr (1, [.int (nI cnt), .ref ow, .ref fi, .ref ma, .ref ro])), (ow, .inl (cI, 400, .inl fo)), (fi, .inl (cI, 400, .inl ff)), (ma, .inl (cJ, 400, .inr (.inl fk))), (ro, .inl (cJ, len, .inr (.inl fr)))] s.heap := hP
  have hD : va_D A [(hn, .inr (1, [.int (nI cnt), .ref ow, .ref fi, .ref ma, .ref ro])), (ow, .inl (cI, 400, .inl fo)), (fi, .inl (cI, 400, .inl ff)), (ma, .inl (cJ, 400, .inr (.inl fk))), (ro, .inl (cJ, len, .inr (.inl fr)))] := hD
  have hl := lv_entry ([.ref hn, .int sd, .int (nI la), .int (nI lb)]) (n := 6) (Nat.le_of_ble_eq_true rfl)
  rw [lg_entry_eq]
  generalize (lg_sl ([.ref hn, .int sd, .int (nI la), .int (nI lb)]) ++ List.replicate (6 - (lg_sl ([.ref hn, .int sd, .int (nI la), .int (nI lb)])).length) Slot.unset).toArray = ls at hl ⊢
  have hl : lv_has ls 6 [(0, .ref hn), (1, .int sd), (2, .int (nI la)), (3, .int (nI lb))] := hl
  have hin1 : ∀ w ∈ wsX10, w ∈ wsX1_addAnd := by decide +kernel
  have kf11 := hts (.fieldLink RX1 11 "SweepEqual$Nodes" "count" "I") (by decide +kernel)
  have kf26 := hts (.fieldLink RX1 26 "SweepEqual$Nodes" "rows" "[J") (by decide +kernel)
  obtain ⟨hg1, hg2, hg3⟩ := grL_ge hc h0 h1 h2
  refine lv_aload_n hx hb dX1_addAnd_0 rfl (lv_at hl 0 rfl) ?_
  refine wr_V (As := []) (rest := []) (wc := [(hn, .inr (1, [.int (nI cnt), .ref ow, .ref fi, .ref ma, .ref ro])), (ow, .inl (cI, 400, .inl fo)), (fi, .inl (cI, 400, .inl ff)), (ma, .inl (cJ, 400, .inr (.inl fk))), (ro, .inl (cJ, len, .inr (.inl fr)))]) (wr := []) (ci := 1) (q0 := 0) ⟨hx, hb, hml, hown, hts⟩ (w_X1_growRows l D cI cJ tp hn ow fi ma ro cnt len fo ff fk fr h0 (by omega) h2 _) (cwV 0 hts gX1_addAnd_X1_growRows rfl rfl rfl (by decide +kernel) ⟨Nat.le_of_ble_eq_true rfl, Nat.le_of_ble_eq_true rfl⟩) rfl rfl rfl hl.1 rfl (Nat.le_of_ble_eq_true rfl) dX1_addAnd_1 ⟨by show _ ≤ _; simp only [headSpec]; omega, by show _ ≤ _; simp only [headSpec]; omega⟩ hK hP hD hS hA hE [0, 1, 2, 3, 4] [] rfl rfl (by decide) (by decide) (by decide) (fun u H locs hu hP hD hS => ?_)
  obtain ⟨ro2, fr2⟩ := u
  have hu : ∀ j, j < len → fr2 j = fr j := hu
  have hP : va_P D vwCl [(hn, .inr (1, [.int (nI cnt), .ref ow, .ref fi, .ref ma, .ref ro2])), (ow, .inl (cI, 400, .inl fo)), (fi, .inl (cI, 400, .inl ff)), (ma, .inl (cJ, 400, .inr (.inl fk))), (ro2, .inl (cJ, (grL cnt len), .inr (.inl fr2)))] H := hP
  have hD : va_D A [(hn, .inr (1, [.int (nI cnt), .ref ow, .ref fi, .ref ma, .ref ro2])), (ow, .inl (cI, 400, .inl fo)), (fi, .inl (cI, 400, .inl ff)), (ma, .inl (cJ, 400, .inr (.inl fk))), (ro2, .inl (cJ, (grL cnt len), .inr (.inl fr2)))] := hD
  have hP := hP.sub (ws' := [(hn, .inr (1, [.int (nI cnt), .ref ow, .ref fi, .ref ma, .ref ro2])), (ow, .inl (cI, 400, .inl fo)), (fi, .inl (cI, 400, .inl ff)), (ma, .inl (cJ, 400, .inr (.inl fk))), (ro2, .inl (cJ, (grL cnt len), .inr (.inl fr2)))]) [0, 1, 2, 3, 4] rfl
  have hD := hD.sub (ws' := [(hn, .inr (1, [.int (nI cnt), .ref ow, .ref fi, .ref ma, .ref ro2])), (ow, .inl (cI, 400, .inl fo)), (fi, .inl (cI, 400, .inl ff)), (ma, .inl (cJ, 400, .inr (.inl fk))), (ro2, .inl (cJ, (grL cnt len), .inr (.inl fr2)))]) [0, 1, 2, 3, 4] (by decide) rfl
  refine W.widen (k := 1) (n := grS cnt len) (by omega) (by omega) ?_
  refine W.eq (g2 := F0 m 4 ls []) rfl ?_
  refine lv_aload_n hx hb dX1_addAnd_4 rfl (lv_at hl 0 rfl) ?_
  refine va_get (D := D) (ci := 1) (v := .int (nI cnt)) (C := RX1) (T := TX1) (N := 5) hx hb hts hin1 hown hK hP 0 rfl rfl 0 (by decide) kf11 (fun _ h9 => h9) rfl dX1_addAnd_5 ?_
  refine lv_bipush (v := nI 64) hx hb dX1_addAnd_8 (by decide) ?_
  refine lv_imul hx hb dX1_addAnd_10 ?_
  refine tp_i (show (nI cnt) * (nI 64) = nI (cnt * 64) from pk_mul _ _) ?_
  refine lv_istore (lv' := [(4, .int (nI (cnt * 64))), (0, .ref hn), (1, .int sd), (2, .int (nI la)), (3, .int (nI lb))]) hx hb dX1_addAnd_11 hl (by decide) rfl (fun ls hl => ?_)
  refine lv_iconst (v := nI 0) hx hb dX1_addAnd_13 (by decide) ?_
  refine lv_istore (lv' := [(5, .int (nI 0)), (4, .int (nI (cnt * 64))), (0, .ref hn), (1, .int sd), (2, .int (nI la)), (3, .int (nI lb))]) hx hb dX1_addAnd_14 hl (by decide) rfl (fun ls hl => ?_)
  have loop : ∀ (n : Nat) (i : Nat), i ≤ 64 → 64 - i < n → ∀ (H : Heap) (locs : List Loc) (ls : Array Slot), va_P D vwCl [(hn, .inr (1, [.int (nI cnt), .ref ow, .ref fi, .ref ma, .ref ro2])), (ow, .inl (cI, 400, .inl fo)), (fi, .inl (cI, 400, .inl ff)), (ma, .inl (cJ, 400, .inr (.inl fk))), (ro2, .inl (cJ, (grL cnt len), .inr (.inl (rwF fr2 cnt (fun w => wd fr2 la w &&& wd fr2 lb w) i))))] H → va_D A [(hn, .inr (1, [.int (nI cnt), .ref ow, .ref fi, .ref ma, .ref ro2])), (ow, .inl (cI, 400, .inl fo)), (fi, .inl (cI, 400, .inl ff)), (ma, .inl (cJ, 400, .inr (.inl fk))), (ro2, .inl (cJ, (grL cnt len), .inr (.inl (rwF fr2 cnt (fun w => wd fr2 la w &&& wd fr2 lb w) i))))] → va_S A s.heap H locs → lv_has ls 6 [(5, .int (nI i)), (4, .int (nI (cnt * 64))), (0, .ref hn), (1, .int sd), (2, .int (nI la)), (3, .int (nI lb))] → W p l e (headSpec wsX1_addAnd { frames := 5, cells := 1, slots := grS cnt len, locals := 115 }).room s m ([.ref hn, .int sd, .int (nI la), .int (nI lb)] : List Value).toArray below meth c H locs 1 (grS cnt len) (MQ below (wx (Su := Nat × (Nat → Int64)) D [(cI, .int), (cJ, .long)] A (fun _ => some (.int (nI (2 * cnt)))) (fun u => (∀ j, j < cnt * 64 → u.2 j = fr j) ∧ ∀ w, w < 64 → u.2 (cnt * 64 + w) = wd fr la w &&& wd fr lb w) (fun u => nW hn ow fi ma u.1 cI cJ (cnt + 1) (grL cnt len) (upd fo cnt sd) (upd ff cnt (ffF u.2 cnt cnt 0)) (vp_updL fk cnt (mkF u.2 cnt)) u.2)) ([.ref hn, .int sd, .int (nI la), .int (nI lb)] : List Value).toArray s 1 (grS cnt len) A) (F0 m 16 ls []) := by
    intro n
    induction n with
    | zero => intro i hi hM; exact absurd hM (Nat.not_lt_zero _)
    | succ n ih =>
      intro i hi hM H locs ls hP hD hS hl
      refine lv_iload hx hb dX1_addAnd_16 (lv_at hl 0 rfl) ?_
      refine lv_bipush (v := nI 64) hx hb dX1_addAnd_18 (by decide) ?_
      refine lv_icmp_ge (tgt := 54) hx hb dX1_addAnd_20 (by decide) (fun c1 => ?_) (fun c1 => ?_)
      · have c1 : 64 ≤ i := (nI_leI (by omega) (by omega)).mp c1
        have hi2 : i = 64 := by omega
        rw [hi2] at hP hD
        refine lv_aload_n hx hb dX1_addAnd_54 rfl (lv_at hl 2 rfl) ?_
        refine lv_iload_n hx hb dX1_addAnd_55 rfl (lv_at hl 3 rfl) ?_
        refine wr_V (As := [.int sd]) (rest := []) (wc := [(hn, .inr (1, [.int (nI cnt), .ref ow, .ref fi, .ref ma, .ref ro2])), (ow, .inl (cI, 400, .inl fo)), (fi, .inl (cI, 400, .inl ff)), (ma, .inl (cJ, 400, .inr (.inl fk))), (ro2, .inl (cJ, (grL cnt len), .inr (.inl (rwF fr2 cnt (fun w => wd fr2 la w &&& wd fr2 lb w) 64))))]) (wr := []) (ci := 1) (q0 := 0) ⟨hx, hb, hml, hown, hts⟩ (w_X1_settle l D cI cJ tp hn ow fi ma ro2 cnt (grL cnt len) fo ff fk (rwF fr2 cnt (fun w => wd fr2 la w &&& wd fr2 lb w) 64) sd h0 (by omega) hg2 (fun j hj => (hfk j hj).trans (mk_cg (fun w hw => ((rwF_lo (by omega)).trans (hu _ (by omega))).symm))) _) (cwV 1 hts gX1_addAnd_X1_settle rfl rfl rfl (by decide +kernel) ⟨Nat.le_of_ble_eq_true rfl, Nat.le_of_ble_eq_true rfl⟩) rfl rfl rfl hl.1 rfl (Nat.le_of_ble_eq_true rfl) dX1_addAnd_56 ⟨by show _ ≤ _; simp only [headSpec]; omega, by show _ ≤ _; simp only [headSpec]; omega⟩ hK hP hD hS hA hE [0, 1, 2, 3, 4] [] rfl rfl (by decide) (by decide) (by decide) (fun _u H locs _hu hP hD hS => ?_)
        have hP : va_P D vwCl [(hn, .inr (1, [.int (nI (cnt + 1)), .ref ow, .ref fi, .ref ma, .ref ro2])), (ow, .inl (cI, 400, .inl (upd fo cnt sd))), (fi, .inl (cI, 400, .inl (upd ff cnt (ffF (rwF fr2 cnt (fun w => wd fr2 la w &&& wd fr2 lb w) 64) cnt cnt 0)))), (ma, .inl (cJ, 400, .inr (.inl (vp_updL fk cnt (mkF (rwF fr2 cnt (fun w => wd fr2 la w &&& wd fr2 lb w) 64) cnt))))), (ro2, .inl (cJ, (grL cnt len), .inr (.inl (rwF fr2 cnt (fun w => wd fr2 la w &&& wd fr2 lb w) 64))))] H := hP
        have hD : va_D A [(hn, .inr (1, [.int (nI (cnt + 1)), .ref ow, .ref fi, .ref ma, .ref ro2])), (ow, .inl (cI, 400, .inl (upd fo cnt sd))), (fi, .inl (cI, 400, .inl (upd ff cnt (ffF (rwF fr2 cnt (fun w => wd fr2 la w &&& wd fr2 lb w) 64) cnt cnt 0)))), (ma, .inl (cJ, 400, .inr (.inl (vp_updL fk cnt (mkF (rwF fr2 cnt (fun w => wd fr2 la w &&& wd fr2 lb w) 64) cnt))))), (ro2, .inl (cJ, (grL cnt len), .inr (.inl (rwF fr2 cnt (fun w => wd fr2 la w &&& wd fr2 lb w) 64))))] := hD
        have hP := hP.sub (ws' := [(hn, .inr (1, [.int (nI (cnt + 1)), .ref ow, .ref fi, .ref ma, .ref ro2])), (ow, .inl (cI, 400, .inl (upd fo cnt sd))), (fi, .inl (cI, 400, .inl (upd ff cnt (ffF (rwF fr2 cnt (fun w => wd fr2 la w &&& wd fr2 lb w) 64) cnt cnt 0)))), (ma, .inl (cJ, 400, .inr (.inl (vp_updL fk cnt (mkF (rwF fr2 cnt (fun w => wd fr2 la w &&& wd fr2 lb w) 64) cnt))))), (ro2, .inl (cJ, (grL cnt len), .inr (.inl (rwF fr2 cnt (fun w => wd fr2 la w &&& wd fr2 lb w) 64))))]) [0, 1, 2, 3, 4] rfl
        have hD := hD.sub (ws' := [(hn, .inr (1, [.int (nI (cnt + 1)), .ref ow, .ref fi, .ref ma, .ref ro2])), (ow, .inl (cI, 400, .inl (upd fo cnt sd))), (fi, .inl (cI, 400, .inl (upd ff cnt (ffF (rwF fr2 cnt (fun w => wd fr2 la w &&& wd fr2 lb w) 64) cnt cnt 0)))), (ma, .inl (cJ, 400, .inr (.inl (vp_updL fk cnt (mkF (rwF fr2 cnt (fun w => wd fr2 la w &&& wd fr2 lb w) 64) cnt))))), (ro2, .inl (cJ, (grL cnt len), .inr (.inl (rwF fr2 cnt (fun w => wd fr2 la w &&& wd fr2 lb w) 64))))]) [0, 1, 2, 3, 4] (by decide) rfl
        refine W.widen (k := 1) (n := grS cnt len) (by omega) (by omega) ?_
        refine W.eq (g2 := F0 m 59 ls [.int (nI (2 * cnt))]) rfl ?_
        have hq1 : ∀ j, j < cnt * 64 → (rwF fr2 cnt (fun w => wd fr2 la w &&& wd fr2 lb w) 64) j = fr j := fun j hj => (rwF_lo hj).trans (hu j (by omega))
        have hq2 : ∀ w, w < 64 → (rwF fr2 cnt (fun w => wd fr2 la w &&& wd fr2 lb w) 64) (cnt * 64 + w) = wd fr la w &&& wd fr lb w := fun w hw => by
          rw [rwF_hi hw, ← wd_congr (hu _ (by omega) : fr2 (la / 2 * 64 + w) = fr (la / 2 * 64 + w)), ← wd_congr (hu _ (by omega) : fr2 (lb / 2 * 64 + w) = fr (lb / 2 * 64 + w))]
        exact wr_i ((ro2, rwF fr2 cnt (fun w => wd fr2 la w &&& wd fr2 lb w) 64)) hx hb hr hlocks hP hD hS dX1_addAnd_59 (rfl) (⟨hq1, hq2⟩)
      · have c1 : ¬ (64 ≤ i) := fun h => c1 ((nI_leI (by omega) (by omega)).mpr h)
        refine lv_aload_n hx hb dX1_addAnd_23 rfl (lv_at hl 2 rfl) ?_
        refine va_get (D := D) (ci := 1) (v := .ref ro2) (C := RX1) (T := TX1) (N := 5) hx hb hts hin1 hown hK hP 0 rfl rfl 4 (by decide) kf26 (fun _ h9 => h9) rfl dX1_addAnd_24 ?_
        refine lv_iload hx hb dX1_addAnd_27 (lv_at hl 1 rfl) ?_
        refine lv_iload hx hb dX1_addAnd_29 (lv_at hl 0 rfl) ?_
        refine lv_iadd hx hb dX1_addAnd_31 ?_
        refine tp_i (show (nI (cnt * 64)) + (nI i) = nI (cnt * 64 + i) from nI_add _ _) ?_
        refine lv_aload_n hx hb dX1_addAnd_32 rfl (lv_at hl 2 rfl) ?_
        refine lv_iload_n hx hb dX1_addAnd_33 rfl (lv_at hl 4 rfl) ?_
        refine lv_iload hx hb dX1_addAnd_34 (lv_at hl 0 rfl) ?_
        refine rd_V (As := [.int (nI la), .int (nI i)]) (rest := [.int (nI (cnt * 64 + i)), .ref ro2]) ⟨hx, hb, hml, hown, hts⟩ (c_X1_wordOf l D cI cJ hn ow fi ma ro2 cnt (grL cnt len) fo ff fk (rwF fr2 cnt (fun w => wd fr2 la w &&& wd fr2 lb w) i) la i (by omega) hg2) (cwV 2 hts gX1_addAnd_X1_wordOf rfl rfl rfl (by decide +kernel) ⟨Nat.le_of_ble_eq_true rfl, Nat.le_of_ble_eq_true rfl⟩) (rd_pv (ci := 1) (q0 := 0) hK (hP.sub (ws' := [(hn, .inr (1, [.int (nI cnt), .ref ow, .ref fi, .ref ma, .ref ro2])), (ow, .inl (cI, 400, .inl fo)), (fi, .inl (cI, 400, .inl ff)), (ma, .inl (cJ, 400, .inr (.inl fk))), (ro2, .inl (cJ, (grL cnt len), .inr (.inl (rwF fr2 cnt (fun w => wd fr2 la w &&& wd fr2 lb w) i))))]) [0, 1, 2, 3, 4] rfl) rfl rfl) rfl hl.1 rfl (Nat.le_of_ble_eq_true rfl) dX1_addAnd_36 ⟨by show _ ≤ _; simp only [headSpec]; omega, by show _ ≤ _; simp only [headSpec]; omega⟩ ?_
        refine tp_l (show wd (rwF fr2 cnt (fun w => wd fr2 la w &&& wd fr2 lb w) i) la i = wd fr2 la i from wd_congr (rwF_lo (by omega))) ?_
        refine lv_aload_n hx hb dX1_addAnd_39 rfl (lv_at hl 2 rfl) ?_
        refine lv_iload_n hx hb dX1_addAnd_40 rfl (lv_at hl 5 rfl) ?_
        refine lv_iload hx hb dX1_addAnd_41 (lv_at hl 0 rfl) ?_
        refine rd_V (As := [.int (nI lb), .int (nI i)]) (rest := [.long (wd fr2 la i), .int (nI (cnt * 64 + i)), .ref ro2]) ⟨hx, hb, hml, hown, hts⟩ (c_X1_wordOf l D cI cJ hn ow fi ma ro2 cnt (grL cnt len) fo ff fk (rwF fr2 cnt (fun w => wd fr2 la w &&& wd fr2 lb w) i) lb i (by omega) hg2) (cwV 2 hts gX1_addAnd_X1_wordOf rfl rfl rfl (by decide +kernel) ⟨Nat.le_of_ble_eq_true rfl, Nat.le_of_ble_eq_true rfl⟩) (rd_pv (ci := 1) (q0 := 0) hK (hP.sub (ws' := [(hn, .inr (1, [.int (nI cnt), .ref ow, .ref fi, .ref ma, .ref ro2])), (ow, .inl (cI, 400, .inl fo)), (fi, .inl (cI, 400, .inl ff)), (ma, .inl (cJ, 400, .inr (.inl fk))), (ro2, .inl (cJ, (grL cnt len), .inr (.inl (rwF fr2 cnt (fun w => wd fr2 la w &&& wd fr2 lb w) i))))]) [0, 1, 2, 3, 4] rfl) rfl rfl) rfl hl.1 rfl (Nat.le_of_ble_eq_true rfl) dX1_addAnd_43 ⟨by show _ ≤ _; simp only [headSpec]; omega, by show _ ≤ _; simp only [headSpec]; omega⟩ ?_
        refine tp_l (show wd (rwF fr2 cnt (fun w => wd fr2 la w &&& wd fr2 lb w) i) lb i = wd fr2 lb i from wd_congr (rwF_lo (by omega))) ?_
        refine lv_land hx hb dX1_addAnd_46 ?_
        refine va_last hx hb hK hP hD hS 4 1 rfl rfl (vp_in_nI (by omega) (by omega)) dX1_addAnd_47 (fun H locs hP hD hS => ?_)
        have hP : va_P D vwCl [(hn, .inr (1, [.int (nI cnt), .ref ow, .ref fi, .ref ma, .ref ro2])), (ow, .inl (cI, 400, .inl fo)), (fi, .inl (cI, 400, .inl ff)), (ma, .inl (cJ, 400, .inr (.inl fk))), (ro2, .inl (cJ, (grL cnt len), .inr (.inl (vp_updL (rwF fr2 cnt (fun w => wd fr2 la w &&& wd fr2 lb w) i) (nI (cnt * 64 + i)).toNatClampNeg ((wd fr2 la i) &&& (wd fr2 lb i))))))] H := hP
        have hD : va_D A [(hn, .inr (1, [.int (nI cnt), .ref ow, .ref fi, .ref ma, .ref ro2])), (ow, .inl (cI, 400, .inl fo)), (fi, .inl (cI, 400, .inl ff)), (ma, .inl (cJ, 400, .inr (.inl fk))), (ro2, .inl (cJ, (grL cnt len), .inr (.inl (vp_updL (rwF fr2 cnt (fun w => wd fr2 la w &&& wd fr2 lb w) i) (nI (cnt * 64 + i)).toNatClampNeg ((wd fr2 la i) &&& (wd fr2 lb i))))))] := hD
        rw [show vp_updL (rwF fr2 cnt (fun w => wd fr2 la w &&& wd fr2 lb w) i) (nI (cnt * 64 + i)).toNatClampNeg ((wd fr2 la i) &&& (wd fr2 lb i)) = rwF fr2 cnt (fun w => wd fr2 la w &&& wd fr2 lb w) (i + 1) from rwF_up (by omega) rfl] at hP hD
        refine lv_iinc (v := nI (i + 1)) (lv' := [(5, .int (nI (i + 1))), (4, .int (nI (cnt * 64))), (0, .ref hn), (1, .int sd), (2, .int (nI la)), (3, .int (nI lb))]) hx hb dX1_addAnd_48 hl (k := 0) rfl (nI_add i 1) (by decide) rfl (fun ls hl => ?_)
        refine lv_goto (tgt := 16) hx hb dX1_addAnd_51 (by decide) ?_
        exact ih (i + 1) (by omega) (by omega) _ _ ls hP hD hS (lv_sub hl [0, 1, 2, 3, 4, 5] rfl)
  exact loop (64 - 0 + 1) 0 (by omega) (by omega) _ _ ls (by rw [rwF_0]; exact hP) (by rw [rwF_0]; exact hD) hS (lv_sub hl [0, 1, 2, 3, 4, 5] rfl)
end WA
