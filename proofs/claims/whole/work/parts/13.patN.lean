/-! Readers of Nodes that lean on the patterns. -/
section RS
variable (l : Launch) (D : va_G) (cI cJ : ClassId) (hn ow fi ma ro cnt len : Nat) (fo ff : Nat → Int32) (fk fr : Nat → Int64) (tp : Nat)
set_option maxHeartbeats 4000000 in
set_option maxRecDepth 100000 in
/-- word w of variable b -/
theorem c_X1_variableWord (b w : Nat) (h1 : b < 12) (h2 : w < 64) : Met l yX1_variableWord wsX1_variableWord { frames := 0, cells := 0, slots := 0, locals := 0 } (re_P D [(cI, .int), (cJ, .long)] [] tp [.int (nI b), .int (nI w)]) (k2_QcV (.long (vwF b w))) 0 0 (fun _ => False) := by
  refine Met.ofW (cc := cX1_variableWord) (maxL := 2) (ret := (some .long)) (by decide) rfl ?_
  intro p e s m args below meth c s₁ B hml hv
  obtain ⟨rfl, ⟨hP, hK⟩, hE⟩ := hv
  have hx := B.exec
  have hb := B.bytes
  have hr := B.returns
  have hts := atoms_spec (ws := wsX1_variableWord) B.pre
  have hown : s.vm.findClass RX1 = some m.cls := findClass_of_methodNamed B.named
  have hlocks := B.notSynchronized
  have hl := lv_entry ([.int (nI b), .int (nI w)]) (n := 2) (Nat.le_of_ble_eq_true rfl)
  rw [lg_entry_eq]
  generalize (lg_sl ([.int (nI b), .int (nI w)]) ++ List.replicate (2 - (lg_sl ([.int (nI b), .int (nI w)])).length) Slot.unset).toArray = ls at hl ⊢
  have hl : lv_has ls 2 [(0, .int (nI b)), (1, .int (nI w))] := hl
  refine lv_iload_n hx hb dX1_variableWord_0 rfl (lv_at hl 0 rfl) ?_
  refine lv_bipush (v := nI 6) hx hb dX1_variableWord_1 (by decide) ?_
  refine lv_icmp_ge (tgt := 12) hx hb dX1_variableWord_3 (by decide) (fun c1 => ?_) (fun c1 => ?_)
  · have c1 : 6 ≤ b := (nI_leI (by omega) (by omega)).mp c1
    have c1 : ¬ b < 6 := by omega
    have hq : w / 2 ^ (b - 6) ≤ w := Nat.div_le_self _ _
    refine lv_iload_n hx hb dX1_variableWord_12 rfl (lv_at hl 1 rfl) ?_
    refine lv_iload_n hx hb dX1_variableWord_13 rfl (lv_at hl 0 rfl) ?_
    refine lv_bipush (v := nI 6) hx hb dX1_variableWord_14 (by decide) ?_
    refine lv_isub hx hb dX1_variableWord_16 ?_
    refine tp_i (show (nI b) - (nI 6) = nI (b - 6) from pk_sub (by omega)) ?_
    refine lv_ishr hx hb dX1_variableWord_17 ?_
    refine tp_i (show (nI w) >>> ((nI (b - 6)) &&& 31) = nI (w / 2 ^ (b - 6)) from n_shr (by omega) (by omega)) ?_
    refine lv_iconst (v := nI 1) hx hb dX1_variableWord_18 (by decide) ?_
    refine lv_iand hx hb dX1_variableWord_19 ?_
    refine tp_i (show (nI (w / 2 ^ (b - 6))) &&& (nI 1) = nI ((w / 2 ^ (b - 6)) % 2) from n_and1 (by omega)) ?_
    refine lv_iconst (v := nI 1) hx hb dX1_variableWord_20 (by decide) ?_
    refine lv_icmp_ne (tgt := 30) hx hb dX1_variableWord_21 (by decide) (fun c2 => ?_) (fun c2 => ?_)
    · have c2 : ¬ (w / 2 ^ (b - 6)) % 2 = 1 := fun h => c2 ((nI_eq (by omega) (by omega)).mpr h)
      refine lv_lconst (v := 0) hx hb dX1_variableWord_30 (by decide) ?_
      exact rd_l hx hb hr hlocks dX1_variableWord_31 (by simp [vwF, c1, c2])
    · have c2 : (w / 2 ^ (b - 6)) % 2 = 1 := (nI_eq (by omega) (by omega)).mp c2
      refine lv_ldc2 hx hb hown (hts (.constantLong RX1 97 (-1)) (by decide +kernel)) dX1_variableWord_24 ?_
      refine lv_goto (tgt := 31) hx hb dX1_variableWord_27 (by decide) ?_
      exact rd_l hx hb hr hlocks dX1_variableWord_31 (by simp [vwF, c1, c2])
  · have c1 : ¬ (6 ≤ b) := fun h => c1 ((nI_leI (by omega) (by omega)).mpr h)
    have c1 : b < 6 := by omega
    refine va_gets (C := "SweepEqual$Nodes") (n := "WORD_PATTERNS") (d := "[J") (v := .ref tp) hx hb hE.1 va_S.rf hown (hts (.fieldLink RX1 94 "SweepEqual$Nodes" "WORD_PATTERNS" "[J") (by decide +kernel)) (fun _ h9 => h9) dX1_variableWord_6 ?_
    refine lv_iload_n hx hb dX1_variableWord_9 rfl (lv_at hl 0 rfl) ?_
    refine va_tl (v := .long (pat b)) hx hb hE.2.1 va_S.rf (vp_in_nI (by omega) (by omega)) (by show Value.long (pat (nI b).toNatClampNeg) = _; rw [nI_clamp (by omega)]) dX1_variableWord_10 ?_
    exact rd_l hx hb hr hlocks dX1_variableWord_11 (by simp [vwF, c1])
set_option maxHeartbeats 4000000 in
set_option maxRecDepth 100000 in
/-- whether a word tells that a literal hangs on a variable -/
theorem c_X1_wordHangsOn (lit b w : Nat) (hb2 : b < 12) (hw : w < 64) (h1 : lit / 2 * 64 + 63 < len) (h2 : len ≤ 25600) : Met l yX1_wordHangsOn wsX1_wordHangsOn { frames := 1, cells := 0, slots := 0, locals := 24 } (re_P D [(cI, .int), (cJ, .long)] (nW hn ow fi ma ro cI cJ cnt len fo ff fk fr) tp [.ref hn, .int (nI lit), .int (nI b), .int (nI w)]) (k2_QcV (.int (zI (whF fr lit b w)))) 0 0 (fun _ => False) := by
  refine Met.ofW (cc := cX1_wordHangsOn) (maxL := 8) (ret := (some .boolean)) (by decide) rfl ?_
  intro p e s m args below meth c s₁ B hml hv
  obtain ⟨rfl, ⟨hP, hK⟩, hE⟩ := hv
  have hx := B.exec
  have hb := B.bytes
  have hr := B.returns
  have hts := atoms_spec (ws := wsX1_wordHangsOn) B.pre
  have hown : s.vm.findClass RX1 = some m.cls := findClass_of_methodNamed B.named
  have hlocks := B.notSynchronized
  have hl := lv_entry ([.ref hn, .int (nI lit), .int (nI b), .int (nI w)]) (n := 8) (Nat.le_of_ble_eq_true rfl)
  rw [lg_entry_eq]
  generalize (lg_sl ([.ref hn, .int (nI lit), .int (nI b), .int (nI w)]) ++ List.replicate (8 - (lg_sl ([.ref hn, .int (nI lit), .int (nI b), .int (nI w)])).length) Slot.unset).toArray = ls at hl ⊢
  have hl : lv_has ls 8 [(0, .ref hn), (1, .int (nI lit)), (2, .int (nI b)), (3, .int (nI w))] := hl
  refine lv_aload_n hx hb dX1_wordHangsOn_0 rfl (lv_at hl 0 rfl) ?_
  refine lv_iload_n hx hb dX1_wordHangsOn_1 rfl (lv_at hl 1 rfl) ?_
  refine lv_iload_n hx hb dX1_wordHangsOn_2 rfl (lv_at hl 3 rfl) ?_
  refine rd_V (As := [.int (nI lit), .int (nI w)]) (rest := []) ⟨hx, hb, hml, hown, hts⟩ (c_X1_wordOf l D cI cJ hn ow fi ma ro cnt len fo ff fk fr lit w (by omega) h2) (cwV 2 hts gX1_wordHangsOn_X1_wordOf rfl rfl rfl (by decide +kernel) ⟨Nat.le_of_ble_eq_true rfl, Nat.le_of_ble_eq_true rfl⟩) (rd_pv (ci := 1) (q0 := 0) hK hP rfl rfl) rfl hl.1 rfl (Nat.le_of_ble_eq_true rfl) dX1_wordHangsOn_3 ⟨Nat.zero_le _, Nat.zero_le _⟩ ?_
  refine lv_lstore (lv' := [(4, .long (wd fr lit w)), (0, .ref hn), (1, .int (nI lit)), (2, .int (nI b)), (3, .int (nI w))]) hx hb dX1_wordHangsOn_6 hl (by decide) rfl (fun ls hl => ?_)
  refine lv_iload_n hx hb dX1_wordHangsOn_8 rfl (lv_at hl 3 rfl) ?_
  refine lv_bipush (v := nI 6) hx hb dX1_wordHangsOn_9 (by decide) ?_
  refine lv_icmp_lt (tgt := 39) hx hb dX1_wordHangsOn_11 (by decide) (fun c1 => ?_) (fun c1 => ?_)
  · have c1 : b < 6 := (nI_ltI (by omega) (by omega)).mp c1
    have c1 : ¬ 6 ≤ b := by omega
    refine lv_lload hx hb dX1_wordHangsOn_39 (lv_at hl 0 rfl) ?_
    refine lv_iconst (v := nI 1) hx hb dX1_wordHangsOn_41 (by decide) ?_
    refine lv_iload_n hx hb dX1_wordHangsOn_42 rfl (lv_at hl 3 rfl) ?_
    refine lv_ishl hx hb dX1_wordHangsOn_43 ?_
    refine tp_i (show (nI 1) <<< ((nI b) &&& 31) = nI (2 ^ b) from n_shl1 (by omega)) ?_
    refine lv_lushr (v := shrL (wd fr lit w) (2 ^ b)) hx hb dX1_wordHangsOn_44 (rfl) ?_
    refine lv_lstore (lv' := [(6, .long (shrL (wd fr lit w) (2 ^ b))), (4, .long (wd fr lit w)), (0, .ref hn), (1, .int (nI lit)), (2, .int (nI b)), (3, .int (nI w))]) hx hb dX1_wordHangsOn_45 hl (by decide) rfl (fun ls hl => ?_)
    refine lv_lload hx hb dX1_wordHangsOn_47 (lv_at hl 1 rfl) ?_
    refine lv_lload hx hb dX1_wordHangsOn_49 (lv_at hl 0 rfl) ?_
    refine lv_lxor hx hb dX1_wordHangsOn_51 ?_
    refine va_gets (C := "SweepEqual$Nodes") (n := "WORD_PATTERNS") (d := "[J") (v := .ref tp) hx hb hE.1 va_S.rf hown (hts (.fieldLink RX1 94 "SweepEqual$Nodes" "WORD_PATTERNS" "[J") (by decide +kernel)) (fun _ h9 => h9) dX1_wordHangsOn_52 ?_
    refine lv_iload_n hx hb dX1_wordHangsOn_55 rfl (lv_at hl 4 rfl) ?_
    have hbl : b < 6 := by omega
    refine va_tl (v := .long (pat b)) hx hb hE.2.1 va_S.rf (vp_in_nI (by omega) (by omega)) (by show Value.long (pat (nI b).toNatClampNeg) = _; rw [nI_clamp (by omega)]) dX1_wordHangsOn_56 ?_
    refine lv_ldc2 hx hb hown (hts (.constantLong RX1 97 (-1)) (by decide +kernel)) dX1_wordHangsOn_57 ?_
    refine lv_lxor hx hb dX1_wordHangsOn_60 ?_
    refine lv_land hx hb dX1_wordHangsOn_61 ?_
    refine lv_lconst (v := 0) hx hb dX1_wordHangsOn_62 (by decide) ?_
    refine W.lcmp hx hb dX1_wordHangsOn_63 ?_
    refine lv_if_eq (tgt := 71) hx hb dX1_wordHangsOn_64 (by decide) (fun c2 => ?_) (fun c2 => ?_)
    · have c2 : ((wd fr lit w) ^^^ (shrL (wd fr lit w) (2 ^ b))) &&& ((pat b) ^^^ (-1)) = 0 := lg_cmp0.mp c2
      refine lv_iconst (v := nI 0) hx hb dX1_wordHangsOn_71 (by decide) ?_
      exact rd_z hx hb hr hlocks dX1_wordHangsOn_72 (by unfold whF; rw [if_neg c1, c2]; rfl) (zI_01 _)
    · have c2 : ¬ (((wd fr lit w) ^^^ (shrL (wd fr lit w) (2 ^ b))) &&& ((pat b) ^^^ (-1))) = 0 := fun h => c2 (lg_cmp0.mpr h)
      refine lv_iconst (v := nI 1) hx hb dX1_wordHangsOn_67 (by decide) ?_
      refine lv_goto (tgt := 72) hx hb dX1_wordHangsOn_68 (by decide) ?_
      exact rd_z hx hb hr hlocks dX1_wordHangsOn_72 (by unfold whF; rw [if_neg c1, decide_eq_true c2]; rfl) (zI_01 _)
  · have c1 : ¬ (b < 6) := fun h => c1 ((nI_ltI (by omega) (by omega)).mpr h)
    have c1 : 6 ≤ b := by omega
    have hp : 2 ^ (b - 6) < 2 ^ 6 := Nat.pow_lt_pow_right (by omega) (by omega)
    have hx6 : w ^^^ 2 ^ (b - 6) < 2 ^ 6 := Nat.xor_lt_two_pow (by omega) hp
    refine lv_lload hx hb dX1_wordHangsOn_14 (lv_at hl 0 rfl) ?_
    refine lv_aload_n hx hb dX1_wordHangsOn_16 rfl (lv_at hl 1 rfl) ?_
    refine lv_iload_n hx hb dX1_wordHangsOn_17 rfl (lv_at hl 2 rfl) ?_
    refine lv_iload_n hx hb dX1_wordHangsOn_18 rfl (lv_at hl 4 rfl) ?_
    refine lv_iconst (v := nI 1) hx hb dX1_wordHangsOn_19 (by decide) ?_
    refine lv_iload_n hx hb dX1_wordHangsOn_20 rfl (lv_at hl 3 rfl) ?_
    refine lv_bipush (v := nI 6) hx hb dX1_wordHangsOn_21 (by decide) ?_
    refine lv_isub hx hb dX1_wordHangsOn_23 ?_
    refine tp_i (show (nI b) - (nI 6) = nI (b - 6) from pk_sub (by omega)) ?_
    refine lv_ishl hx hb dX1_wordHangsOn_24 ?_
    refine tp_i (show (nI 1) <<< ((nI (b - 6)) &&& 31) = nI (2 ^ (b - 6)) from n_shl1 (by omega)) ?_
    refine lv_ixor hx hb dX1_wordHangsOn_25 ?_
    refine tp_i (show (nI w) ^^^ (nI (2 ^ (b - 6))) = nI (w ^^^ 2 ^ (b - 6)) from n_xor _ _) ?_
    refine rd_V (As := [.int (nI lit), .int (nI (w ^^^ 2 ^ (b - 6)))]) (rest := [.long (wd fr lit w)]) ⟨hx, hb, hml, hown, hts⟩ (c_X1_wordOf l D cI cJ hn ow fi ma ro cnt len fo ff fk fr lit (w ^^^ 2 ^ (b - 6)) (by omega) h2) (cwV 2 hts gX1_wordHangsOn_X1_wordOf rfl rfl rfl (by decide +kernel) ⟨Nat.le_of_ble_eq_true rfl, Nat.le_of_ble_eq_true rfl⟩) (rd_pv (ci := 1) (q0 := 0) hK hP rfl rfl) rfl hl.1 rfl (Nat.le_of_ble_eq_true rfl) dX1_wordHangsOn_26 ⟨Nat.zero_le _, Nat.zero_le _⟩ ?_
    refine W.lcmp hx hb dX1_wordHangsOn_29 ?_
    refine lv_if_eq (tgt := 37) hx hb dX1_wordHangsOn_30 (by decide) (fun c2 => ?_) (fun c2 => ?_)
    · have c2 : wd fr lit w = wd fr lit (w ^^^ 2 ^ (b - 6)) := lg_cmp0.mp c2
      refine lv_iconst (v := nI 0) hx hb dX1_wordHangsOn_37 (by decide) ?_
      exact rd_z hx hb hr hlocks dX1_wordHangsOn_38 (by simp [whF, c1, c2, zI, nI_zero]) (zI_01 _)
    · have c2 : ¬ (wd fr lit w) = (wd fr lit (w ^^^ 2 ^ (b - 6))) := fun h => c2 (lg_cmp0.mpr h)
      refine lv_iconst (v := nI 1) hx hb dX1_wordHangsOn_33 (by decide) ?_
      refine lv_goto (tgt := 38) hx hb dX1_wordHangsOn_34 (by decide) ?_
      exact rd_z hx hb hr hlocks dX1_wordHangsOn_38 (by simp [whF, c1, c2, zI, nI_one]) (zI_01 _)
set_option maxHeartbeats 4000000 in
set_option maxRecDepth 100000 in
/-- whether a literal hangs on a variable -/
theorem c_X1_hangsOn (lit b : Nat) (hb2 : b < 12) (h1 : lit / 2 * 64 + 63 < len) (h2 : len ≤ 25600) : Met l yX1_hangsOn wsX1_hangsOn { frames := 2, cells := 0, slots := 0, locals := 51 } (re_P D [(cI, .int), (cJ, .long)] (nW hn ow fi ma ro cI cJ cnt len fo ff fk fr) tp [.ref hn, .int (nI lit), .int (nI b)]) (k2_QcV (.int (zI (hgF fr lit b 64 0)))) 0 0 (fun _ => False) := by
  refine Met.ofW (cc := cX1_hangsOn) (maxL := 4) (ret := (some .boolean)) (by decide) rfl ?_
  intro p e s m args below meth c s₁ B hml hv
  obtain ⟨rfl, ⟨hP, hK⟩, hE⟩ := hv
  have hx := B.exec
  have hb := B.bytes
  have hr := B.returns
  have hts := atoms_spec (ws := wsX1_hangsOn) B.pre
  have hown : s.vm.findClass RX1 = some m.cls := findClass_of_methodNamed B.named
  have hlocks := B.notSynchronized
  have hl := lv_entry ([.ref hn, .int (nI lit), .int (nI b)]) (n := 4) (Nat.le_of_ble_eq_true rfl)
  rw [lg_entry_eq]
  generalize (lg_sl ([.ref hn, .int (nI lit), .int (nI b)]) ++ List.replicate (4 - (lg_sl ([.ref hn, .int (nI lit), .int (nI b)])).length) Slot.unset).toArray = ls at hl ⊢
  have hl : lv_has ls 4 [(0, .ref hn), (1, .int (nI lit)), (2, .int (nI b))] := hl
  refine lv_iconst (v := nI 0) hx hb dX1_hangsOn_0 (by decide) ?_
  refine lv_istore_n (lv' := [(3, .int (nI 0)), (0, .ref hn), (1, .int (nI lit)), (2, .int (nI b))]) hx hb dX1_hangsOn_1 rfl hl (by decide) rfl (fun ls hl => ?_)
  have loop : ∀ (n : Nat) (i : Nat), i ≤ 64 → hgF fr lit b 64 0 = hgF fr lit b (64 - i) i → 64 - i < n → ∀ ls : Array Slot, lv_has ls 4 [(3, .int (nI i)), (0, .ref hn), (1, .int (nI lit)), (2, .int (nI b))] → W p l e (headSpec wsX1_hangsOn { frames := 2, cells := 0, slots := 0, locals := 51 }).room s m ([.ref hn, .int (nI lit), .int (nI b)] : List Value).toArray below meth c s.heap [] 0 0 (MQ below (k2_QcV (.int (zI (hgF fr lit b 64 0)))) ([.ref hn, .int (nI lit), .int (nI b)] : List Value).toArray s 0 0 (fun _ => False)) (F0 m 2 ls []) := by
    intro n
    induction n with
    | zero => intro i hi hR hM; exact absurd hM (Nat.not_lt_zero _)
    | succ n ih =>
      intro i hi hR hM ls hl
      refine lv_iload_n hx hb dX1_hangsOn_2 rfl (lv_at hl 0 rfl) ?_
      refine lv_bipush (v := nI 64) hx hb dX1_hangsOn_3 (by decide) ?_
      refine lv_icmp_ge (tgt := 26) hx hb dX1_hangsOn_5 (by decide) (fun c1 => ?_) (fun c1 => ?_)
      · have c1 : 64 ≤ i := (nI_leI (by omega) (by omega)).mp c1
        refine lv_iconst (v := nI 0) hx hb dX1_hangsOn_26 (by decide) ?_
        have hi2 : 64 - i = 0 := by omega
        exact rd_z hx hb hr hlocks dX1_hangsOn_27 (by rw [hR, hi2]; rfl) (zI_01 _)
      · have c1 : ¬ (64 ≤ i) := fun h => c1 ((nI_leI (by omega) (by omega)).mpr h)
        refine lv_aload_n hx hb dX1_hangsOn_8 rfl (lv_at hl 1 rfl) ?_
        refine lv_iload_n hx hb dX1_hangsOn_9 rfl (lv_at hl 2 rfl) ?_
        refine lv_iload_n hx hb dX1_hangsOn_10 rfl (lv_at hl 3 rfl) ?_
        refine lv_iload_n hx hb dX1_hangsOn_11 rfl (lv_at hl 0 rfl) ?_
        refine rd_V (As := [.int (nI lit), .int (nI b), .int (nI i)]) (rest := []) ⟨hx, hb, hml, hown, hts⟩ (c_X1_wordHangsOn l D cI cJ hn ow fi ma ro cnt len fo ff fk fr tp lit b i hb2 (by omega) h1 h2) (cwV 3 hts gX1_hangsOn_X1_wordHangsOn rfl rfl rfl (by decide +kernel) ⟨Nat.le_of_ble_eq_true rfl, Nat.le_of_ble_eq_true rfl⟩) (re_pv (ci := 1) (q0 := 0) hK hP hE rfl rfl) rfl hl.1 rfl (Nat.le_of_ble_eq_true rfl) dX1_hangsOn_12 ⟨Nat.zero_le _, Nat.zero_le _⟩ ?_
        obtain ⟨k, hk⟩ : ∃ k, 64 - i = k + 1 := ⟨63 - i, by omega⟩
        refine lv_if_eq (tgt := 20) hx hb dX1_hangsOn_15 (by decide) (fun c2 => ?_) (fun c2 => ?_)
        · have c2 := zI_eq0.mp c2
          refine lv_iinc (v := nI (i + 1)) (lv' := [(3, .int (nI (i + 1))), (0, .ref hn), (1, .int (nI lit)), (2, .int (nI b))]) hx hb dX1_hangsOn_20 hl (k := 0) rfl (nI_add i 1) (by decide) rfl (fun ls hl => ?_)
          refine lv_goto (tgt := 2) hx hb dX1_hangsOn_23 (by decide) ?_
          exact ih (i + 1) (by omega) (by rw [hR, hk, show 64 - (i + 1) = k by omega]; simp [hgF, c2]) (by omega) ls (lv_sub hl [0, 1, 2, 3] rfl)
        · have c2 : whF fr lit b i = true := by simpa using fun h => c2 (zI_eq0.mpr h)
          refine lv_iconst (v := nI 1) hx hb dX1_hangsOn_18 (by decide) ?_
          exact rd_z hx hb hr hlocks dX1_hangsOn_19 (by rw [hR, hk]; simp [hgF, c2, zI, nI_one]) (zI_01 _)
  exact loop (64 - 0 + 1) 0 (by omega) (rfl) (by omega) ls (lv_sub hl [0, 1, 2, 3] rfl)
set_option maxHeartbeats 4000000 in
set_option maxRecDepth 100000 in
/-- on which variables a literal hangs -/
theorem c_X1_supportOf (lit : Nat) (h1 : lit / 2 * 64 + 63 < len) (h2 : len ≤ 25600) : Met l yX1_supportOf wsX1_supportOf { frames := 3, cells := 0, slots := 0, locals := 74 } (re_P D [(cI, .int), (cJ, .long)] (nW hn ow fi ma ro cI cJ cnt len fo ff fk fr) tp [.ref hn, .int (nI lit)]) (k2_QcV (.int (spF fr lit 12))) 0 0 (fun _ => False) := by
  refine Met.ofW (cc := cX1_supportOf) (maxL := 4) (ret := (some .int)) (by decide) rfl ?_
  intro p e s m args below meth c s₁ B hml hv
  obtain ⟨rfl, ⟨hP, hK⟩, hE⟩ := hv
  have hx := B.exec
  have hb := B.bytes
  have hr := B.returns
  have hts := atoms_spec (ws := wsX1_supportOf) B.pre
  have hown : s.vm.findClass RX1 = some m.cls := findClass_of_methodNamed B.named
  have hlocks := B.notSynchronized
  have hl := lv_entry ([.ref hn, .int (nI lit)]) (n := 4) (Nat.le_of_ble_eq_true rfl)
  rw [lg_entry_eq]
  generalize (lg_sl ([.ref hn, .int (nI lit)]) ++ List.replicate (4 - (lg_sl ([.ref hn, .int (nI lit)])).length) Slot.unset).toArray = ls at hl ⊢
  have hl : lv_has ls 4 [(0, .ref hn), (1, .int (nI lit))] := hl
  refine lv_iconst (v := nI 0) hx hb dX1_supportOf_0 (by decide) ?_
  refine lv_istore_n (lv' := [(2, .int (nI 0)), (0, .ref hn), (1, .int (nI lit))]) hx hb dX1_supportOf_1 rfl hl (by decide) rfl (fun ls hl => ?_)
  refine lv_iconst (v := nI 0) hx hb dX1_supportOf_2 (by decide) ?_
  refine lv_istore_n (lv' := [(3, .int (nI 0)), (2, .int (nI 0)), (0, .ref hn), (1, .int (nI lit))]) hx hb dX1_supportOf_3 rfl hl (by decide) rfl (fun ls hl => ?_)
  have loop : ∀ (n : Nat) (i : Nat), i ≤ 12 → 12 - i < n → ∀ ls : Array Slot, lv_has ls 4 [(2, .int (spF fr lit i)), (3, .int (nI i)), (0, .ref hn), (1, .int (nI lit))] → W p l e (headSpec wsX1_supportOf { frames := 3, cells := 0, slots := 0, locals := 74 }).room s m ([.ref hn, .int (nI lit)] : List Value).toArray below meth c s.heap [] 0 0 (MQ below (k2_QcV (.int (spF fr lit 12))) ([.ref hn, .int (nI lit)] : List Value).toArray s 0 0 (fun _ => False)) (F0 m 4 ls []) := by
    intro n
    induction n with
    | zero => intro i hi hM; exact absurd hM (Nat.not_lt_zero _)
    | succ n ih =>
      intro i hi hM ls hl
      refine lv_iload_n hx hb dX1_supportOf_4 rfl (lv_at hl 1 rfl) ?_
      refine lv_bipush (v := nI 12) hx hb dX1_supportOf_5 (by decide) ?_
      refine lv_icmp_ge (tgt := 31) hx hb dX1_supportOf_7 (by decide) (fun c1 => ?_) (fun c1 => ?_)
      · have c1 : 12 ≤ i := (nI_leI (by omega) (by omega)).mp c1
        refine lv_iload_n hx hb dX1_supportOf_31 rfl (lv_at hl 0 rfl) ?_
        have hi2 : i = 12 := by omega
        exact rd_i hx hb hr hlocks dX1_supportOf_32 (by rw [hi2])
      · have c1 : ¬ (12 ≤ i) := fun h => c1 ((nI_leI (by omega) (by omega)).mpr h)
        refine lv_aload_n hx hb dX1_supportOf_10 rfl (lv_at hl 2 rfl) ?_
        refine lv_iload_n hx hb dX1_supportOf_11 rfl (lv_at hl 3 rfl) ?_
        refine lv_iload_n hx hb dX1_supportOf_12 rfl (lv_at hl 1 rfl) ?_
        refine rd_V (As := [.int (nI lit), .int (nI i)]) (rest := []) ⟨hx, hb, hml, hown, hts⟩ (c_X1_hangsOn l D cI cJ hn ow fi ma ro cnt len fo ff fk fr tp lit i (by omega) h1 h2) (cwV 2 hts gX1_supportOf_X1_hangsOn rfl rfl rfl (by decide +kernel) ⟨Nat.le_of_ble_eq_true rfl, Nat.le_of_ble_eq_true rfl⟩) (re_pv (ci := 1) (q0 := 0) hK hP hE rfl rfl) rfl hl.1 rfl (Nat.le_of_ble_eq_true rfl) dX1_supportOf_13 ⟨Nat.zero_le _, Nat.zero_le _⟩ ?_
        refine lv_if_eq (tgt := 25) hx hb dX1_supportOf_16 (by decide) (fun c2 => ?_) (fun c2 => ?_)
        · have c2 := zI_eq0.mp c2
          refine lv_iinc (v := nI (i + 1)) (lv' := [(3, .int (nI (i + 1))), (2, .int (spF fr lit i)), (0, .ref hn), (1, .int (nI lit))]) hx hb dX1_supportOf_25 hl (k := 1) rfl (nI_add i 1) (by decide) rfl (fun ls hl => ?_)
          refine lv_goto (tgt := 4) hx hb dX1_supportOf_28 (by decide) ?_
          exact ih (i + 1) (by omega) (by omega) ls (by rw [show spF fr lit (i + 1) = spF fr lit i from by simp [spF, c2]]; exact lv_sub hl [1, 0, 2, 3] rfl)
        · have c2 : hgF fr lit i 64 0 = true := by simpa using fun h => c2 (zI_eq0.mpr h)
          refine lv_iload_n hx hb dX1_supportOf_19 rfl (lv_at hl 0 rfl) ?_
          refine lv_iconst (v := nI 1) hx hb dX1_supportOf_20 (by decide) ?_
          refine lv_iload_n hx hb dX1_supportOf_21 rfl (lv_at hl 1 rfl) ?_
          refine lv_ishl hx hb dX1_supportOf_22 ?_
          refine lv_ior hx hb dX1_supportOf_23 ?_
          refine lv_istore_n (lv' := [(2, .int ((spF fr lit i) ||| ((nI 1) <<< ((nI i) &&& 31)))), (3, .int (nI i)), (0, .ref hn), (1, .int (nI lit))]) hx hb dX1_supportOf_24 rfl hl (by decide) rfl (fun ls hl => ?_)
          refine lv_iinc (v := nI (i + 1)) (lv' := [(3, .int (nI (i + 1))), (2, .int ((spF fr lit i) ||| ((nI 1) <<< ((nI i) &&& 31)))), (0, .ref hn), (1, .int (nI lit))]) hx hb dX1_supportOf_25 hl (k := 1) rfl (nI_add i 1) (by decide) rfl (fun ls hl => ?_)
          refine lv_goto (tgt := 4) hx hb dX1_supportOf_28 (by decide) ?_
          exact ih (i + 1) (by omega) (by omega) ls (by rw [show spF fr lit (i + 1) = spF fr lit i ||| (nI 1 <<< (nI i &&& 31)) from by simp [spF, c2]]; exact lv_sub hl [1, 0, 2, 3] rfl)
  exact loop (12 - 0 + 1) 0 (by omega) (by omega) ls (lv_sub hl [1, 0, 2, 3] rfl)
end RS
