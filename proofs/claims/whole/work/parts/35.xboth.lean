/-! SweepEqual: readers over both designs. -/
/-- how many of the first n things differ -/
def cdF (ff : Nat → Int32) (g1 g2 : Nat → Nat) : Nat → Nat
  | 0 => 0
  | i + 1 => cdF ff g1 g2 i + if fs1 ff (g1 i) = fs1 ff (g2 i) then 0 else 1
theorem cdF_le (ff : Nat → Int32) (g1 g2 : Nat → Nat) : ∀ n, cdF ff g1 g2 n ≤ n
  | 0 => Nat.le_refl 0
  | n + 1 => by have := cdF_le ff g1 g2 n; unfold cdF; split <;> omega
/-- from i on, at most n things: the place of the one that differs behind lf others -/
def pdF (ff : Nat → Int32) (g1 g2 : Nat → Nat) : Nat → Nat → Nat → Int32
  | 0, _, _ => -1
  | n + 1, i, lf => if fs1 ff (g1 i) = fs1 ff (g2 i) then pdF ff g1 g2 n (i + 1) lf else if lf = 0 then nI i else pdF ff g1 g2 n (i + 1) (lf - 1)
/-- from latch i on, at most n: the start that differs behind lf others; then the numbers of outputs -/
def dsF (x oA oB : Nat) : Nat → Nat → Nat → Int32
  | 0, _, lf => if lf = 0 then (if oA = oB then -1 else nI 300) else -1
  | n + 1, i, lf => if x / 2 ^ i % 2 = 1 then (if lf = 0 then nI (200 + i) else dsF x oA oB n (i + 1) (lf - 1)) else dsF x oA oB n (i + 1) lf
/-- from i on, at most n: whether one is apart -/
def saF (sA sB : Nat → Int32) : Nat → Nat → Bool
  | 0, _ => false
  | n + 1, i => if sA i = sB i then saF sA sB n (i + 1) else true
section XB
variable (l : Launch) (D : va_G) (cI cJ : ClassId) (tp : Nat) (h hn ow fi ma ro ha oa na sa he ob nb sb : Nat) (ic lc stp : Nat) (ap : Int32) (cnt len : Nat) (fo ff : Nat → Int32) (fk fr : Nat → Int64) (oA cA rA tA : Nat) (gA nA : Nat → Nat) (sA : Nat → Int32) (oB cB rB tB : Nat) (gB nB : Nat → Nat) (sB : Nat → Int32)
set_option maxHeartbeats 4000000 in
set_option maxRecDepth 100000 in
/-- how many outputs both have -/
theorem c_X2_sharedOutputs (ho1 : oA ≤ 16) (ho2 : oB ≤ 16) : Met l yX2_sharedOutputs wsX2_sharedOutputs { frames := 1, cells := 0, slots := 0, locals := 13 } (re_P D [(cI, .int), (cJ, .long)] (xW h hn ow fi ma ro ha oa na sa he ob nb sb cI cJ ic lc stp ap cnt len fo ff fk fr oA cA rA tA gA nA sA oB cB rB tB gB nB sB) tp [.ref h]) (k2_QcV (.int (nI (min oA oB)))) 0 0 (fun _ => False) := by
  refine Met.ofW (cc := cX2_sharedOutputs) (maxL := 1) (ret := (some .int)) (by decide) rfl ?_
  intro p e s m args below meth c s₁ B hml hv
  obtain ⟨rfl, ⟨hP, hK⟩, hE⟩ := hv
  have hx := B.exec
  have hb := B.bytes
  have hr := B.returns
  have hts := atoms_spec (ws := wsX2_sharedOutputs) B.pre
  have hown : s.vm.findClass RX2 = some m.cls := findClass_of_methodNamed B.named
  have hlocks := B.notSynchronized
  have hl := lv_entry ([.ref h]) (n := 1) (Nat.le_of_ble_eq_true rfl)
  rw [lg_entry_eq]
  generalize (lg_sl ([.ref h]) ++ List.replicate (1 - (lg_sl ([.ref h])).length) Slot.unset).toArray = ls at hl ⊢
  have hl : lv_has ls 1 [(0, .ref h)] := hl
  have hP : va_P D vwCl [(h, .inr (2, [.ref hn, .ref ha, .ref he, .int (nI ic), .int (nI lc), .int (nI stp), .int ap])), (hn, .inr (1, [.int (nI cnt), .ref ow, .ref fi, .ref ma, .ref ro])), (ow, .inl (cI, 400, .inl fo)), (fi, .inl (cI, 400, .inl ff)), (ma, .inl (cJ, 400, .inr (.inl fk))), (ro, .inl (cJ, len, .inr (.inl fr))), (ha, .inr (0, [.ref oa, .ref na, .ref sa, .int (nI oA), .int (nI cA), .int (nI rA), .int (nI tA)])), (oa, .inl (cI, 16, .inl (fun j => nI (gA j)))), (na, .inl (cI, 4, .inl (fun j => nI (nA j)))), (sa, .inl (cI, 16, .inl sA)), (he, .inr (0, [.ref ob, .ref nb, .ref sb, .int (nI oB), .int (nI cB), .int (nI rB), .int (nI tB)])), (ob, .inl (cI, 16, .inl (fun j => nI (gB j)))), (nb, .inl (cI, 4, .inl (fun j => nI (nB j)))), (sb, .inl (cI, 16, .inl sB))] s.heap := hP
  have hin0 : ∀ w ∈ wsX00, w ∈ wsX2_sharedOutputs := by decide +kernel
  have hin2 : ∀ w ∈ wsX20, w ∈ wsX2_sharedOutputs := by decide +kernel
  have kf19 := hts (.fieldLink RX2 19 "SweepEqual" "designA" "LSweepEqual$Design;") (by decide +kernel)
  have kf81 := hts (.fieldLink RX2 81 "SweepEqual$Design" "outputCount" "I") (by decide +kernel)
  have kf23 := hts (.fieldLink RX2 23 "SweepEqual" "designB" "LSweepEqual$Design;") (by decide +kernel)
  refine lv_aload_n hx hb dX2_sharedOutputs_0 rfl (lv_at hl 0 rfl) ?_
  refine va_get (D := D) (ci := 2) (v := .ref ha) (C := RX2) (T := TX2) (N := 7) hx hb hts hin2 hown hK hP 0 rfl rfl 1 (by decide) kf19 (fun _ h9 => h9) rfl dX2_sharedOutputs_1 ?_
  refine va_get (D := D) (ci := 0) (v := .int (nI oA)) (C := RX0) (T := TX0) (N := 7) hx hb hts hin0 hown hK hP 6 rfl rfl 3 (by decide) kf81 (fun _ h9 => h9) rfl dX2_sharedOutputs_4 ?_
  refine lv_aload_n hx hb dX2_sharedOutputs_7 rfl (lv_at hl 0 rfl) ?_
  refine va_get (D := D) (ci := 2) (v := .ref he) (C := RX2) (T := TX2) (N := 7) hx hb hts hin2 hown hK hP 0 rfl rfl 2 (by decide) kf23 (fun _ h9 => h9) rfl dX2_sharedOutputs_8 ?_
  refine va_get (D := D) (ci := 0) (v := .int (nI oB)) (C := RX0) (T := TX0) (N := 7) hx hb hts hin0 hown hK hP 10 rfl rfl 3 (by decide) kf81 (fun _ h9 => h9) rfl dX2_sharedOutputs_11 ?_
  refine va_mmin hx hb (by rw [hml]; exact hl.1.symm) hown (hts (.methodLink RX2 200 Lib.Math.min.name) (by decide +kernel)) (hts (.static Lib.Math.min.name) (by decide +kernel)) (hts (.initialized "java/lang/Math") (by decide +kernel)) (hts (.code Lib.Math.min.name Lib.Math.min.code 2 (some .int)) (by decide +kernel)) (Nat.le_of_ble_eq_true rfl) (Nat.le_of_ble_eq_true rfl) (Nat.zero_le _) (Nat.zero_le _) dX2_sharedOutputs_14 ?_
  refine tp_i (show (if nI oB < nI oA then nI oB else nI oA) = nI (min oA oB) from min_I (by omega) (by omega)) ?_
  exact rd_i hx hb hr hlocks dX2_sharedOutputs_17 (rfl)
set_option maxHeartbeats 4000000 in
set_option maxRecDepth 100000 in
/-- how many differ -/
theorem c_X2_countDifferentO (n0 : Nat) (hn0 : n0 ≤ 16) (hg : ∀ j, j < n0 → gA j < 2 * cnt ∧ gB j < 2 * cnt) (hc : cnt ≤ 400) : Met l yX2_countDifferent wsX2_countDifferent { frames := 2, cells := 0, slots := 0, locals := 43 } (re_P D [(cI, .int), (cJ, .long)] (xW h hn ow fi ma ro ha oa na sa he ob nb sb cI cJ ic lc stp ap cnt len fo ff fk fr oA cA rA tA gA nA sA oB cB rB tB gB nB sB) tp [.ref h, .ref oa, .ref ob, .int (nI n0)]) (k2_QcV (.int (nI (cdF ff gA gB n0)))) 0 0 (fun _ => False) := by
  refine Met.ofW (cc := cX2_countDifferent) (maxL := 6) (ret := (some .int)) (by decide) rfl ?_
  intro p e s m args below meth c s₁ B hml hv
  obtain ⟨rfl, ⟨hP, hK⟩, hE⟩ := hv
  have hx := B.exec
  have hb := B.bytes
  have hr := B.returns
  have hts := atoms_spec (ws := wsX2_countDifferent) B.pre
  have hown : s.vm.findClass RX2 = some m.cls := findClass_of_methodNamed B.named
  have hlocks := B.notSynchronized
  have hl := lv_entry ([.ref h, .ref oa, .ref ob, .int (nI n0)]) (n := 6) (Nat.le_of_ble_eq_true rfl)
  rw [lg_entry_eq]
  generalize (lg_sl ([.ref h, .ref oa, .ref ob, .int (nI n0)]) ++ List.replicate (6 - (lg_sl ([.ref h, .ref oa, .ref ob, .int (nI n0)])).length) Slot.unset).toArray = ls at hl ⊢
  have hl : lv_has ls 6 [(0, .ref h), (1, .ref oa), (2, .ref ob), (3, .int (nI n0))] := hl
  have hP : va_P D vwCl [(h, .inr (2, [.ref hn, .ref ha, .ref he, .int (nI ic), .int (nI lc), .int (nI stp), .int ap])), (hn, .inr (1, [.int (nI cnt), .ref ow, .ref fi, .ref ma, .ref ro])), (ow, .inl (cI, 400, .inl fo)), (fi, .inl (cI, 400, .inl ff)), (ma, .inl (cJ, 400, .inr (.inl fk))), (ro, .inl (cJ, len, .inr (.inl fr))), (ha, .inr (0, [.ref oa, .ref na, .ref sa, .int (nI oA), .int (nI cA), .int (nI rA), .int (nI tA)])), (oa, .inl (cI, 16, .inl (fun j => nI (gA j)))), (na, .inl (cI, 4, .inl (fun j => nI (nA j)))), (sa, .inl (cI, 16, .inl sA)), (he, .inr (0, [.ref ob, .ref nb, .ref sb, .int (nI oB), .int (nI cB), .int (nI rB), .int (nI tB)])), (ob, .inl (cI, 16, .inl (fun j => nI (gB j)))), (nb, .inl (cI, 4, .inl (fun j => nI (nB j)))), (sb, .inl (cI, 16, .inl sB))] s.heap := hP
  have hin2 : ∀ w ∈ wsX20, w ∈ wsX2_countDifferent := by decide +kernel
  have kf12 := hts (.fieldLink RX2 12 "SweepEqual" "nodes" "LSweepEqual$Nodes;") (by decide +kernel)
  refine lv_iconst (v := nI 0) hx hb dX2_countDifferent_0 (by decide) ?_
  refine lv_istore (lv' := [(4, .int (nI 0)), (0, .ref h), (1, .ref oa), (2, .ref ob), (3, .int (nI n0))]) hx hb dX2_countDifferent_1 hl (by decide) rfl (fun ls hl => ?_)
  refine lv_iconst (v := nI 0) hx hb dX2_countDifferent_3 (by decide) ?_
  refine lv_istore (lv' := [(5, .int (nI 0)), (4, .int (nI 0)), (0, .ref h), (1, .ref oa), (2, .ref ob), (3, .int (nI n0))]) hx hb dX2_countDifferent_4 hl (by decide) rfl (fun ls hl => ?_)
  have loop : ∀ (n : Nat) (i : Nat), i ≤ n0 → n0 - i < n → ∀ ls : Array Slot, lv_has ls 6 [(4, .int (nI (cdF ff gA gB i))), (5, .int (nI i)), (0, .ref h), (1, .ref oa), (2, .ref ob), (3, .int (nI n0))] → W p l e (headSpec wsX2_countDifferent { frames := 2, cells := 0, slots := 0, locals := 43 }).room s m ([.ref h, .ref oa, .ref ob, .int (nI n0)] : List Value).toArray below meth c s.heap [] 0 0 (MQ below (k2_QcV (.int (nI (cdF ff gA gB n0)))) ([.ref h, .ref oa, .ref ob, .int (nI n0)] : List Value).toArray s 0 0 (fun _ => False)) (F0 m 6 ls []) := by
    intro n
    induction n with
    | zero => intro i hi hM; exact absurd hM (Nat.not_lt_zero _)
    | succ n ih =>
      intro i hi hM ls hl
      have hcd := cdF_le ff gA gB i
      refine lv_iload hx hb dX2_countDifferent_6 (lv_at hl 1 rfl) ?_
      refine lv_iload_n hx hb dX2_countDifferent_8 rfl (lv_at hl 5 rfl) ?_
      refine lv_icmp_ge (tgt := 39) hx hb dX2_countDifferent_9 (by decide) (fun c1 => ?_) (fun c1 => ?_)
      · have c1 : n0 ≤ i := (nI_leI (by omega) (by omega)).mp c1
        refine lv_iload hx hb dX2_countDifferent_39 (lv_at hl 0 rfl) ?_
        have hi2 : i = n0 := by omega
        exact rd_i hx hb hr hlocks dX2_countDifferent_41 (by rw [hi2])
      · have c1 : ¬ (n0 ≤ i) := fun h => c1 ((nI_leI (by omega) (by omega)).mpr h)
        have hgi := hg i (by omega)
        refine lv_aload_n hx hb dX2_countDifferent_12 rfl (lv_at hl 2 rfl) ?_
        refine va_get (D := D) (ci := 2) (v := .ref hn) (C := RX2) (T := TX2) (N := 7) hx hb hts hin2 hown hK hP 0 rfl rfl 0 (by decide) kf12 (fun _ h9 => h9) rfl dX2_countDifferent_13 ?_
        refine lv_aload_n hx hb dX2_countDifferent_16 rfl (lv_at hl 3 rfl) ?_
        refine lv_iload hx hb dX2_countDifferent_17 (lv_at hl 1 rfl) ?_
        refine va_iald hx hb hK hP 7 0 rfl rfl (vp_in_nI (by omega) (by omega)) dX2_countDifferent_19 ?_
        refine tp_i (show (fun j => nI (gA j)) (nI i).toNatClampNeg = nI (gA i) from congrArg (fun j => nI (gA j)) (nI_clamp (by omega))) ?_
        refine lv_aload_n hx hb dX2_countDifferent_20 rfl (lv_at hl 4 rfl) ?_
        refine lv_iload hx hb dX2_countDifferent_21 (lv_at hl 1 rfl) ?_
        refine va_iald hx hb hK hP 11 0 rfl rfl (vp_in_nI (by omega) (by omega)) dX2_countDifferent_23 ?_
        refine tp_i (show (fun j => nI (gB j)) (nI i).toNatClampNeg = nI (gB i) from congrArg (fun j => nI (gB j)) (nI_clamp (by omega))) ?_
        refine rd_V (As := [.int (nI (gA i)), .int (nI (gB i))]) (rest := []) ⟨hx, hb, hml, hown, hts⟩ (c_X1_areSame l D cI cJ hn ow fi ma ro cnt len fo ff fk fr (gA i) (gB i) (by omega) (by omega)) (cwV 2 hts gX2_countDifferent_X1_areSame rfl rfl rfl (by decide +kernel) ⟨Nat.le_of_ble_eq_true rfl, Nat.le_of_ble_eq_true rfl⟩) (rd_pv (ci := 1) (q0 := 0) hK (hP.sub (ws' := [(hn, .inr (1, [.int (nI cnt), .ref ow, .ref fi, .ref ma, .ref ro])), (ow, .inl (cI, 400, .inl fo)), (fi, .inl (cI, 400, .inl ff)), (ma, .inl (cJ, 400, .inr (.inl fk))), (ro, .inl (cJ, len, .inr (.inl fr)))]) [1, 2, 3, 4, 5] rfl) rfl rfl) rfl hl.1 rfl (Nat.le_of_ble_eq_true rfl) dX2_countDifferent_24 ⟨Nat.zero_le _, Nat.zero_le _⟩ ?_
        refine lv_if_ne (tgt := 33) hx hb dX2_countDifferent_27 (by decide) (fun c2 => ?_) (fun c2 => ?_)
        · have c2 : fs1 ff (gA i) = fs1 ff (gB i) := by simpa using fun h => c2 (zI_eq0.mpr h)
          refine lv_iinc (v := nI (i + 1)) (lv' := [(5, .int (nI (i + 1))), (4, .int (nI (cdF ff gA gB i))), (0, .ref h), (1, .ref oa), (2, .ref ob), (3, .int (nI n0))]) hx hb dX2_countDifferent_33 hl (k := 1) rfl (nI_add i 1) (by decide) rfl (fun ls hl => ?_)
          refine lv_goto (tgt := 6) hx hb dX2_countDifferent_36 (by decide) ?_
          exact ih (i + 1) (by omega) (by omega) ls (by rw [show cdF ff gA gB (i + 1) = cdF ff gA gB i from by simp [cdF, c2]]; exact lv_sub hl [1, 0, 2, 3, 4, 5] rfl)
        · have c2 : ¬ fs1 ff (gA i) = fs1 ff (gB i) := by simpa using zI_eq0.mp c2
          refine lv_iinc (v := nI (cdF ff gA gB i + 1)) (lv' := [(4, .int (nI (cdF ff gA gB i + 1))), (5, .int (nI i)), (0, .ref h), (1, .ref oa), (2, .ref ob), (3, .int (nI n0))]) hx hb dX2_countDifferent_30 hl (k := 0) rfl (nI_add (cdF ff gA gB i) 1) (by decide) rfl (fun ls hl => ?_)
          refine lv_iinc (v := nI (i + 1)) (lv' := [(5, .int (nI (i + 1))), (4, .int (nI (cdF ff gA gB i + 1))), (0, .ref h), (1, .ref oa), (2, .ref ob), (3, .int (nI n0))]) hx hb dX2_countDifferent_33 hl (k := 1) rfl (nI_add i 1) (by decide) rfl (fun ls hl => ?_)
          refine lv_goto (tgt := 6) hx hb dX2_countDifferent_36 (by decide) ?_
          exact ih (i + 1) (by omega) (by omega) ls (by rw [show cdF ff gA gB (i + 1) = cdF ff gA gB i + 1 from by simp [cdF, c2]]; exact lv_sub hl [1, 0, 2, 3, 4, 5] rfl)
  exact loop (n0 - 0 + 1) 0 (by omega) (by omega) ls (lv_sub hl [1, 0, 2, 3, 4, 5] rfl)
set_option maxHeartbeats 4000000 in
set_option maxRecDepth 100000 in
/-- the place of the k-th that differs -/
theorem c_X2_placeOfDifferentO (n0 : Nat) (hn0 : n0 ≤ 16) (hg : ∀ j, j < n0 → gA j < 2 * cnt ∧ gB j < 2 * cnt) (hc : cnt ≤ 400) (k : Nat) (hk : k < 2 ^ 31) : Met l yX2_placeOfDifferent wsX2_placeOfDifferent { frames := 2, cells := 0, slots := 0, locals := 43 } (re_P D [(cI, .int), (cJ, .long)] (xW h hn ow fi ma ro ha oa na sa he ob nb sb cI cJ ic lc stp ap cnt len fo ff fk fr oA cA rA tA gA nA sA oB cB rB tB gB nB sB) tp [.ref h, .ref oa, .ref ob, .int (nI n0), .int (nI k)]) (k2_QcV (.int (pdF ff gA gB n0 0 k))) 0 0 (fun _ => False) := by
  refine Met.ofW (cc := cX2_placeOfDifferent) (maxL := 7) (ret := (some .int)) (by decide) rfl ?_
  intro p e s m args below meth c s₁ B hml hv
  obtain ⟨rfl, ⟨hP, hK⟩, hE⟩ := hv
  have hx := B.exec
  have hb := B.bytes
  have hr := B.returns
  have hts := atoms_spec (ws := wsX2_placeOfDifferent) B.pre
  have hown : s.vm.findClass RX2 = some m.cls := findClass_of_methodNamed B.named
  have hlocks := B.notSynchronized
  have hl := lv_entry ([.ref h, .ref oa, .ref ob, .int (nI n0), .int (nI k)]) (n := 7) (Nat.le_of_ble_eq_true rfl)
  rw [lg_entry_eq]
  generalize (lg_sl ([.ref h, .ref oa, .ref ob, .int (nI n0), .int (nI k)]) ++ List.replicate (7 - (lg_sl ([.ref h, .ref oa, .ref ob, .int (nI n0), .int (nI k)])).length) Slot.unset).toArray = ls at hl ⊢
  have hl : lv_has ls 7 [(0, .ref h), (1, .ref oa), (2, .ref ob), (3, .int (nI n0)), (4, .int (nI k))] := hl
  have hP : va_P D vwCl [(h, .inr (2, [.ref hn, .ref ha, .ref he, .int (nI ic), .int (nI lc), .int (nI stp), .int ap])), (hn, .inr (1, [.int (nI cnt), .ref ow, .ref fi, .ref ma, .ref ro])), (ow, .inl (cI, 400, .inl fo)), (fi, .inl (cI, 400, .inl ff)), (ma, .inl (cJ, 400, .inr (.inl fk))), (ro, .inl (cJ, len, .inr (.inl fr))), (ha, .inr (0, [.ref oa, .ref na, .ref sa, .int (nI oA), .int (nI cA), .int (nI rA), .int (nI tA)])), (oa, .inl (cI, 16, .inl (fun j => nI (gA j)))), (na, .inl (cI, 4, .inl (fun j => nI (nA j)))), (sa, .inl (cI, 16, .inl sA)), (he, .inr (0, [.ref ob, .ref nb, .ref sb, .int (nI oB), .int (nI cB), .int (nI rB), .int (nI tB)])), (ob, .inl (cI, 16, .inl (fun j => nI (gB j)))), (nb, .inl (cI, 4, .inl (fun j => nI (nB j)))), (sb, .inl (cI, 16, .inl sB))] s.heap := hP
  have hin2 : ∀ w ∈ wsX20, w ∈ wsX2_placeOfDifferent := by decide +kernel
  have kf12 := hts (.fieldLink RX2 12 "SweepEqual" "nodes" "LSweepEqual$Nodes;") (by decide +kernel)
  refine lv_iload hx hb dX2_placeOfDifferent_0 (lv_at hl 4 rfl) ?_
  refine lv_istore (lv' := [(5, .int (nI k)), (0, .ref h), (1, .ref oa), (2, .ref ob), (3, .int (nI n0)), (4, .int (nI k))]) hx hb dX2_placeOfDifferent_2 hl (by decide) rfl (fun ls hl => ?_)
  refine lv_iconst (v := nI 0) hx hb dX2_placeOfDifferent_4 (by decide) ?_
  refine lv_istore (lv' := [(6, .int (nI 0)), (5, .int (nI k)), (0, .ref h), (1, .ref oa), (2, .ref ob), (3, .int (nI n0)), (4, .int (nI k))]) hx hb dX2_placeOfDifferent_5 hl (by decide) rfl (fun ls hl => ?_)
  have loop : ∀ (n : Nat) (i : Nat) (lf : Nat), i ≤ n0 → lf < 2 ^ 31 → pdF ff gA gB n0 0 k = pdF ff gA gB (n0 - i) i lf → n0 - i < n → ∀ ls : Array Slot, lv_has ls 7 [(5, .int (nI lf)), (6, .int (nI i)), (0, .ref h), (1, .ref oa), (2, .ref ob), (3, .int (nI n0)), (4, .int (nI k))] → W p l e (headSpec wsX2_placeOfDifferent { frames := 2, cells := 0, slots := 0, locals := 43 }).room s m ([.ref h, .ref oa, .ref ob, .int (nI n0), .int (nI k)] : List Value).toArray below meth c s.heap [] 0 0 (MQ below (k2_QcV (.int (pdF ff gA gB n0 0 k))) ([.ref h, .ref oa, .ref ob, .int (nI n0), .int (nI k)] : List Value).toArray s 0 0 (fun _ => False)) (F0 m 7 ls []) := by
    intro n
    induction n with
    | zero => intro i lf hi hlf hR hM; exact absurd hM (Nat.not_lt_zero _)
    | succ n ih =>
      intro i lf hi hlf hR hM ls hl
      refine lv_iload hx hb dX2_placeOfDifferent_7 (lv_at hl 1 rfl) ?_
      refine lv_iload_n hx hb dX2_placeOfDifferent_9 rfl (lv_at hl 5 rfl) ?_
      refine lv_icmp_ge (tgt := 48) hx hb dX2_placeOfDifferent_10 (by decide) (fun c1 => ?_) (fun c1 => ?_)
      · have c1 : n0 ≤ i := (nI_leI (by omega) (by omega)).mp c1
        refine lv_iconst (v := -1) hx hb dX2_placeOfDifferent_48 (by decide) ?_
        have hi2 : n0 - i = 0 := by omega
        exact rd_i hx hb hr hlocks dX2_placeOfDifferent_49 (by rw [hR, hi2]; rfl)
      · have c1 : ¬ (n0 ≤ i) := fun h => c1 ((nI_leI (by omega) (by omega)).mpr h)
        have hgi := hg i (by omega)
        obtain ⟨kk, hkk⟩ : ∃ kk, n0 - i = kk + 1 := ⟨n0 - i - 1, by omega⟩
        refine lv_aload_n hx hb dX2_placeOfDifferent_13 rfl (lv_at hl 2 rfl) ?_
        refine va_get (D := D) (ci := 2) (v := .ref hn) (C := RX2) (T := TX2) (N := 7) hx hb hts hin2 hown hK hP 0 rfl rfl 0 (by decide) kf12 (fun _ h9 => h9) rfl dX2_placeOfDifferent_14 ?_
        refine lv_aload_n hx hb dX2_placeOfDifferent_17 rfl (lv_at hl 3 rfl) ?_
        refine lv_iload hx hb dX2_placeOfDifferent_18 (lv_at hl 1 rfl) ?_
        refine va_iald hx hb hK hP 7 0 rfl rfl (vp_in_nI (by omega) (by omega)) dX2_placeOfDifferent_20 ?_
        refine tp_i (show (fun j => nI (gA j)) (nI i).toNatClampNeg = nI (gA i) from congrArg (fun j => nI (gA j)) (nI_clamp (by omega))) ?_
        refine lv_aload_n hx hb dX2_placeOfDifferent_21 rfl (lv_at hl 4 rfl) ?_
        refine lv_iload hx hb dX2_placeOfDifferent_22 (lv_at hl 1 rfl) ?_
        refine va_iald hx hb hK hP 11 0 rfl rfl (vp_in_nI (by omega) (by omega)) dX2_placeOfDifferent_24 ?_
        refine tp_i (show (fun j => nI (gB j)) (nI i).toNatClampNeg = nI (gB i) from congrArg (fun j => nI (gB j)) (nI_clamp (by omega))) ?_
        refine rd_V (As := [.int (nI (gA i)), .int (nI (gB i))]) (rest := []) ⟨hx, hb, hml, hown, hts⟩ (c_X1_areSame l D cI cJ hn ow fi ma ro cnt len fo ff fk fr (gA i) (gB i) (by omega) (by omega)) (cwV 2 hts gX2_placeOfDifferent_X1_areSame rfl rfl rfl (by decide +kernel) ⟨Nat.le_of_ble_eq_true rfl, Nat.le_of_ble_eq_true rfl⟩) (rd_pv (ci := 1) (q0 := 0) hK (hP.sub (ws' := [(hn, .inr (1, [.int (nI cnt), .ref ow, .ref fi, .ref ma, .ref ro])), (ow, .inl (cI, 400, .inl fo)), (fi, .inl (cI, 400, .inl ff)), (ma, .inl (cJ, 400, .inr (.inl fk))), (ro, .inl (cJ, len, .inr (.inl fr)))]) [1, 2, 3, 4, 5] rfl) rfl rfl) rfl hl.1 rfl (Nat.le_of_ble_eq_true rfl) dX2_placeOfDifferent_25 ⟨Nat.zero_le _, Nat.zero_le _⟩ ?_
        refine lv_if_ne (tgt := 42) hx hb dX2_placeOfDifferent_28 (by decide) (fun c2 => ?_) (fun c2 => ?_)
        · have c2 : fs1 ff (gA i) = fs1 ff (gB i) := by simpa using fun h => c2 (zI_eq0.mpr h)
          refine lv_iinc (v := nI (i + 1)) (lv' := [(6, .int (nI (i + 1))), (5, .int (nI lf)), (0, .ref h), (1, .ref oa), (2, .ref ob), (3, .int (nI n0)), (4, .int (nI k))]) hx hb dX2_placeOfDifferent_42 hl (k := 1) rfl (nI_add i 1) (by decide) rfl (fun ls hl => ?_)
          refine lv_goto (tgt := 7) hx hb dX2_placeOfDifferent_45 (by decide) ?_
          exact ih (i + 1) lf (by omega) (hlf) (by rw [hR, hkk, show n0 - (i + 1) = kk by omega]; simp [pdF, c2]) (by omega) ls (lv_sub hl [1, 0, 2, 3, 4, 5, 6] rfl)
        · have c2 : ¬ fs1 ff (gA i) = fs1 ff (gB i) := by simpa using zI_eq0.mp c2
          refine lv_iload hx hb dX2_placeOfDifferent_31 (lv_at hl 0 rfl) ?_
          refine lv_if_ne (tgt := 39) hx hb dX2_placeOfDifferent_33 (by decide) (fun c3 => ?_) (fun c3 => ?_)
          · have c3 : ¬ lf = 0 := fun h => c3 (by rw [h]; rfl)
            refine lv_iinc (v := nI (lf - 1)) (lv' := [(5, .int (nI (lf - 1))), (6, .int (nI i)), (0, .ref h), (1, .ref oa), (2, .ref ob), (3, .int (nI n0)), (4, .int (nI k))]) hx hb dX2_placeOfDifferent_39 hl (k := 0) rfl (sb_m1 (by omega)) (by decide) rfl (fun ls hl => ?_)
            refine lv_iinc (v := nI (i + 1)) (lv' := [(6, .int (nI (i + 1))), (5, .int (nI (lf - 1))), (0, .ref h), (1, .ref oa), (2, .ref ob), (3, .int (nI n0)), (4, .int (nI k))]) hx hb dX2_placeOfDifferent_42 hl (k := 1) rfl (nI_add i 1) (by decide) rfl (fun ls hl => ?_)
            refine lv_goto (tgt := 7) hx hb dX2_placeOfDifferent_45 (by decide) ?_
            exact ih (i + 1) (lf - 1) (by omega) (by omega) (by rw [hR, hkk, show n0 - (i + 1) = kk by omega]; simp [pdF, c2, c3]) (by omega) ls (lv_sub hl [1, 0, 2, 3, 4, 5, 6] rfl)
          · have c3 : lf = 0 := by by_cases hz : lf = 0; exact hz; exact absurd c3 (nI_ne0 (by omega) hlf)
            refine lv_iload hx hb dX2_placeOfDifferent_36 (lv_at hl 1 rfl) ?_
            exact rd_i hx hb hr hlocks dX2_placeOfDifferent_38 (by rw [hR, hkk]; simp [pdF, c2, c3])
  exact loop (n0 - 0 + 1) 0 k (by omega) (hk) (rfl) (by omega) ls (lv_sub hl [1, 0, 2, 3, 4, 5, 6] rfl)
set_option maxHeartbeats 4000000 in
set_option maxRecDepth 100000 in
/-- how many differ -/
theorem c_X2_countDifferentN (n0 : Nat) (hn0 : n0 ≤ 4) (hg : ∀ j, j < n0 → nA j < 2 * cnt ∧ nB j < 2 * cnt) (hc : cnt ≤ 400) : Met l yX2_countDifferent wsX2_countDifferent { frames := 2, cells := 0, slots := 0, locals := 43 } (re_P D [(cI, .int), (cJ, .long)] (xW h hn ow fi ma ro ha oa na sa he ob nb sb cI cJ ic lc stp ap cnt len fo ff fk fr oA cA rA tA gA nA sA oB cB rB tB gB nB sB) tp [.ref h, .ref na, .ref nb, .int (nI n0)]) (k2_QcV (.int (nI (cdF ff nA nB n0)))) 0 0 (fun _ => False) := by
  refine Met.ofW (cc := cX2_countDifferent) (maxL := 6) (ret := (some .int)) (by decide) rfl ?_
  intro p e s m args below meth c s₁ B hml hv
  obtain ⟨rfl, ⟨hP, hK⟩, hE⟩ := hv
  have hx := B.exec
  have hb := B.bytes
  have hr := B.returns
  have hts := atoms_spec (ws := wsX2_countDifferent) B.pre
  have hown : s.vm.findClass RX2 = some m.cls := findClass_of_methodNamed B.named
  have hlocks := B.notSynchronized
  have hl := lv_entry ([.ref h, .ref na, .ref nb, .int (nI n0)]) (n := 6) (Nat.le_of_ble_eq_true rfl)
  rw [lg_entry_eq]
  generalize (lg_sl ([.ref h, .ref na, .ref nb, .int (nI n0)]) ++ List.replicate (6 - (lg_sl ([.ref h, .ref na, .ref nb, .int (nI n0)])).length) Slot.unset).toArray = ls at hl ⊢
  have hl : lv_has ls 6 [(0, .ref h), (1, .ref na), (2, .ref nb), (3, .int (nI n0))] := hl
  have hP : va_P D vwCl [(h, .inr (2, [.ref hn, .ref ha, .ref he, .int (nI ic), .int (nI lc), .int (nI stp), .int ap])), (hn, .inr (1, [.int (nI cnt), .ref ow, .ref fi, .ref ma, .ref ro])), (ow, .inl (cI, 400, .inl fo)), (fi, .inl (cI, 400, .inl ff)), (ma, .inl (cJ, 400, .inr (.inl fk))), (ro, .inl (cJ, len, .inr (.inl fr))), (ha, .inr (0, [.ref oa, .ref na, .ref sa, .int (nI oA), .int (nI cA), .int (nI rA), .int (nI tA)])), (oa, .inl (cI, 16, .inl (fun j => nI (gA j)))), (na, .inl (cI, 4, .inl (fun j => nI (nA j)))), (sa, .inl (cI, 16, .inl sA)), (he, .inr (0, [.ref ob, .ref nb, .ref sb, .int (nI oB), .int (nI cB), .int (nI rB), .int (nI tB)])), (ob, .inl (cI, 16, .inl (fun j => nI (gB j)))), (nb, .inl (cI, 4, .inl (fun j => nI (nB j)))), (sb, .inl (cI, 16, .inl sB))] s.heap := hP
  have hin2 : ∀ w ∈ wsX20, w ∈ wsX2_countDifferent := by decide +kernel
  have kf12 := hts (.fieldLink RX2 12 "SweepEqual" "nodes" "LSweepEqual$Nodes;") (by decide +kernel)
  refine lv_iconst (v := nI 0) hx hb dX2_countDifferent_0 (by decide) ?_
  refine lv_istore (lv' := [(4, .int (nI 0)), (0, .ref h), (1, .ref na), (2, .ref nb), (3, .int (nI n0))]) hx hb dX2_countDifferent_1 hl (by decide) rfl (fun ls hl => ?_)
  refine lv_iconst (v := nI 0) hx hb dX2_countDifferent_3 (by decide) ?_
  refine lv_istore (lv' := [(5, .int (nI 0)), (4, .int (nI 0)), (0, .ref h), (1, .ref na), (2, .ref nb), (3, .int (nI n0))]) hx hb dX2_countDifferent_4 hl (by decide) rfl (fun ls hl => ?_)
  have loop : ∀ (n : Nat) (i : Nat), i ≤ n0 → n0 - i < n → ∀ ls : Array Slot, lv_has ls 6 [(4, .int (nI (cdF ff nA nB i))), (5, .int (nI i)), (0, .ref h), (1, .ref na), (2, .ref nb), (3, .int (nI n0))] → W p l e (headSpec wsX2_countDifferent { frames := 2, cells := 0, slots := 0, locals := 43 }).room s m ([.ref h, .ref na, .ref nb, .int (nI n0)] : List Value).toArray below meth c s.heap [] 0 0 (MQ below (k2_QcV (.int (nI (cdF ff nA nB n0)))) ([.ref h, .ref na, .ref nb, .int (nI n0)] : List Value).toArray s 0 0 (fun _ => False)) (F0 m 6 ls []) := by
    intro n
    induction n with
    | zero => intro i hi hM; exact absurd hM (Nat.not_lt_zero _)
    | succ n ih =>
      intro i hi hM ls hl
      have hcd := cdF_le ff nA nB i
      refine lv_iload hx hb dX2_countDifferent_6 (lv_at hl 1 rfl) ?_
      refine lv_iload_n hx hb dX2_countDifferent_8 rfl (lv_at hl 5 rfl) ?_
      refine lv_icmp_ge (tgt := 39) hx hb dX2_countDifferent_9 (by decide) (fun c1 => ?_) (fun c1 => ?_)
      · have c1 : n0 ≤ i := (nI_leI (by omega) (by omega)).mp c1
        refine lv_iload hx hb dX2_countDifferent_39 (lv_at hl 0 rfl) ?_
        have hi2 : i = n0 := by omega
        exact rd_i hx hb hr hlocks dX2_countDifferent_41 (by rw [hi2])
      · have c1 : ¬ (n0 ≤ i) := fun h => c1 ((nI_leI (by omega) (by omega)).mpr h)
        have hgi := hg i (by omega)
        refine lv_aload_n hx hb dX2_countDifferent_12 rfl (lv_at hl 2 rfl) ?_
        refine va_get (D := D) (ci := 2) (v := .ref hn) (C := RX2) (T := TX2) (N := 7) hx hb hts hin2 hown hK hP 0 rfl rfl 0 (by decide) kf12 (fun _ h9 => h9) rfl dX2_countDifferent_13 ?_
        refine lv_aload_n hx hb dX2_countDifferent_16 rfl (lv_at hl 3 rfl) ?_
        refine lv_iload hx hb dX2_countDifferent_17 (lv_at hl 1 rfl) ?_
        refine va_iald hx hb hK hP 8 0 rfl rfl (vp_in_nI (by omega) (by omega)) dX2_countDifferent_19 ?_
        refine tp_i (show (fun j => nI (nA j)) (nI i).toNatClampNeg = nI (nA i) from congrArg (fun j => nI (nA j)) (nI_clamp (by omega))) ?_
        refine lv_aload_n hx hb dX2_countDifferent_20 rfl (lv_at hl 4 rfl) ?_
        refine lv_iload hx hb dX2_countDifferent_21 (lv_at hl 1 rfl) ?_
        refine va_iald hx hb hK hP 12 0 rfl rfl (vp_in_nI (by omega) (by omega)) dX2_countDifferent_23 ?_
        refine tp_i (show (fun j => nI (nB j)) (nI i).toNatClampNeg = nI (nB i) from congrArg (fun j => nI (nB j)) (nI_clamp (by omega))) ?_
        refine rd_V (As := [.int (nI (nA i)), .int (nI (nB i))]) (rest := []) ⟨hx, hb, hml, hown, hts⟩ (c_X1_areSame l D cI cJ hn ow fi ma ro cnt len fo ff fk fr (nA i) (nB i) (by omega) (by omega)) (cwV 2 hts gX2_countDifferent_X1_areSame rfl rfl rfl (by decide +kernel) ⟨Nat.le_of_ble_eq_true rfl, Nat.le_of_ble_eq_true rfl⟩) (rd_pv (ci := 1) (q0 := 0) hK (hP.sub (ws' := [(hn, .inr (1, [.int (nI cnt), .ref ow, .ref fi, .ref ma, .ref ro])), (ow, .inl (cI, 400, .inl fo)), (fi, .inl (cI, 400, .inl ff)), (ma, .inl (cJ, 400, .inr (.inl fk))), (ro, .inl (cJ, len, .inr (.inl fr)))]) [1, 2, 3, 4, 5] rfl) rfl rfl) rfl hl.1 rfl (Nat.le_of_ble_eq_true rfl) dX2_countDifferent_24 ⟨Nat.zero_le _, Nat.zero_le _⟩ ?_
        refine lv_if_ne (tgt := 33) hx hb dX2_countDifferent_27 (by decide) (fun c2 => ?_) (fun c2 => ?_)
        · have c2 : fs1 ff (nA i) = fs1 ff (nB i) := by simpa using fun h => c2 (zI_eq0.mpr h)
          refine lv_iinc (v := nI (i + 1)) (lv' := [(5, .int (nI (i + 1))), (4, .int (nI (cdF ff nA nB i))), (0, .ref h), (1, .ref na), (2, .ref nb), (3, .int (nI n0))]) hx hb dX2_countDifferent_33 hl (k := 1) rfl (nI_add i 1) (by decide) rfl (fun ls hl => ?_)
          refine lv_goto (tgt := 6) hx hb dX2_countDifferent_36 (by decide) ?_
          exact ih (i + 1) (by omega) (by omega) ls (by rw [show cdF ff nA nB (i + 1) = cdF ff nA nB i from by simp [cdF, c2]]; exact lv_sub hl [1, 0, 2, 3, 4, 5] rfl)
        · have c2 : ¬ fs1 ff (nA i) = fs1 ff (nB i) := by simpa using zI_eq0.mp c2
          refine lv_iinc (v := nI (cdF ff nA nB i + 1)) (lv' := [(4, .int (nI (cdF ff nA nB i + 1))), (5, .int (nI i)), (0, .ref h), (1, .ref na), (2, .ref nb), (3, .int (nI n0))]) hx hb dX2_countDifferent_30 hl (k := 0) rfl (nI_add (cdF ff nA nB i) 1) (by decide) rfl (fun ls hl => ?_)
          refine lv_iinc (v := nI (i + 1)) (lv' := [(5, .int (nI (i + 1))), (4, .int (nI (cdF ff nA nB i + 1))), (0, .ref h), (1, .ref na), (2, .ref nb), (3, .int (nI n0))]) hx hb dX2_countDifferent_33 hl (k := 1) rfl (nI_add i 1) (by decide) rfl (fun ls hl => ?_)
          refine lv_goto (tgt := 6) hx hb dX2_countDifferent_36 (by decide) ?_
          exact ih (i + 1) (by omega) (by omega) ls (by rw [show cdF ff nA nB (i + 1) = cdF ff nA nB i + 1 from by simp [cdF, c2]]; exact lv_sub hl [1, 0, 2, 3, 4, 5] rfl)
  exact loop (n0 - 0 + 1) 0 (by omega) (by omega) ls (lv_sub hl [1, 0, 2, 3, 4, 5] rfl)
set_option maxHeartbeats 4000000 in
set_option maxRecDepth 100000 in
/-- the place of the k-th that differs -/
theorem c_X2_placeOfDifferentN (n0 : Nat) (hn0 : n0 ≤ 4) (hg : ∀ j, j < n0 → nA j < 2 * cnt ∧ nB j < 2 * cnt) (hc : cnt ≤ 400) (k : Nat) (hk : k < 2 ^ 31) : Met l yX2_placeOfDifferent wsX2_placeOfDifferent { frames := 2, cells := 0, slots := 0, locals := 43 } (re_P D [(cI, .int), (cJ, .long)] (xW h hn ow fi ma ro ha oa na sa he ob nb sb cI cJ ic lc stp ap cnt len fo ff fk fr oA cA rA tA gA nA sA oB cB rB tB gB nB sB) tp [.ref h, .ref na, .ref nb, .int (nI n0), .int (nI k)]) (k2_QcV (.int (pdF ff nA nB n0 0 k))) 0 0 (fun _ => False) := by
  refine Met.ofW (cc := cX2_placeOfDifferent) (maxL := 7) (ret := (some .int)) (by decide) rfl ?_
  intro p e s m args below meth c s₁ B hml hv
  obtain ⟨rfl, ⟨hP, hK⟩, hE⟩ := hv
  have hx := B.exec
  have hb := B.bytes
  have hr := B.returns
  have hts := atoms_spec (ws := wsX2_placeOfDifferent) B.pre
  have hown : s.vm.findClass RX2 = some m.cls := findClass_of_methodNamed B.named
  have hlocks := B.notSynchronized
  have hl := lv_entry ([.ref h, .ref na, .ref nb, .int (nI n0), .int (nI k)]) (n := 7) (Nat.le_of_ble_eq_true rfl)
  rw [lg_entry_eq]
  generalize (lg_sl ([.ref h, .ref na, .ref nb, .int (nI n0), .int (nI k)]) ++ List.replicate (7 - (lg_sl ([.ref h, .ref na, .ref nb, .int (nI n0), .int (nI k)])).length) Slot.unset).toArray = ls at hl ⊢
  have hl : lv_has ls 7 [(0, .ref h), (1, .ref na), (2, .ref nb), (3, .int (nI n0)), (4, .int (nI k))] := hl
  have hP : va_P D vwCl [(h, .inr (2, [.ref hn, .ref ha, .ref he, .int (nI ic), .int (nI lc), .int (nI stp), .int ap])), (hn, .inr (1, [.int (nI cnt), .ref ow, .ref fi, .ref ma, .ref ro])), (ow, .inl (cI, 400, .inl fo)), (fi, .inl (cI, 400, .inl ff)), (ma, .inl (cJ, 400, .inr (.inl fk))), (ro, .inl (cJ, len, .inr (.inl fr))), (ha, .inr (0, [.ref oa, .ref na, .ref sa, .int (nI oA), .int (nI cA), .int (nI rA), .int (nI tA)])), (oa, .inl (cI, 16, .inl (fun j => nI (gA j)))), (na, .inl (cI, 4, .inl (fun j => nI (nA j)))), (sa, .inl (cI, 16, .inl sA)), (he, .inr (0, [.ref ob, .ref nb, .ref sb, .int (nI oB), .int (nI cB), .int (nI rB), .int (nI tB)])), (ob, .inl (cI, 16, .inl (fun j => nI (gB j)))), (nb, .inl (cI, 4, .inl (fun j => nI (nB j)))), (sb, .inl (cI, 16, .inl sB))] s.heap := hP
  have hin2 : ∀ w ∈ wsX20, w ∈ wsX2_placeOfDifferent := by decide +kernel
  have kf12 := hts (.fieldLink RX2 12 "SweepEqual" "nodes" "LSweepEqual$Nodes;") (by decide +kernel)
  refine lv_iload hx hb dX2_placeOfDifferent_0 (lv_at hl 4 rfl) ?_
  refine lv_istore (lv' := [(5, .int (nI k)), (0, .ref h), (1, .ref na), (2, .ref nb), (3, .int (nI n0)), (4, .int (nI k))]) hx hb dX2_placeOfDifferent_2 hl (by decide) rfl (fun ls hl => ?_)
  refine lv_iconst (v := nI 0) hx hb dX2_placeOfDifferent_4 (by decide) ?_
  refine lv_istore (lv' := [(6, .int (nI 0)), (5, .int (nI k)), (0, .ref h), (1, .ref na), (2, .ref nb), (3, .int (nI n0)), (4, .int (nI k))]) hx hb dX2_placeOfDifferent_5 hl (by decide) rfl (fun ls hl => ?_)
  have loop : ∀ (n : Nat) (i : Nat) (lf : Nat), i ≤ n0 → lf < 2 ^ 31 → pdF ff nA nB n0 0 k = pdF ff nA nB (n0 - i) i lf → n0 - i < n → ∀ ls : Array Slot, lv_has ls 7 [(5, .int (nI lf)), (6, .int (nI i)), (0, .ref h), (1, .ref na), (2, .ref nb), (3, .int (nI n0)), (4, .int (nI k))] → W p l e (headSpec wsX2_placeOfDifferent { frames := 2, cells := 0, slots := 0, locals := 43 }).room s m ([.ref h, .ref na, .ref nb, .int (nI n0), .int (nI k)] : List Value).toArray below meth c s.heap [] 0 0 (MQ below (k2_QcV (.int (pdF ff nA nB n0 0 k))) ([.ref h, .ref na, .ref nb, .int (nI n0), .int (nI k)] : List Value).toArray s 0 0 (fun _ => False)) (F0 m 7 ls []) := by
    intro n
    induction n with
    | zero => intro i lf hi hlf hR hM; exact absurd hM (Nat.not_lt_zero _)
    | succ n ih =>
      intro i lf hi hlf hR hM ls hl
      refine lv_iload hx hb dX2_placeOfDifferent_7 (lv_at hl 1 rfl) ?_
      refine lv_iload_n hx hb dX2_placeOfDifferent_9 rfl (lv_at hl 5 rfl) ?_
      refine lv_icmp_ge (tgt := 48) hx hb dX2_placeOfDifferent_10 (by decide) (fun c1 => ?_) (fun c1 => ?_)
      · have c1 : n0 ≤ i := (nI_leI (by omega) (by omega)).mp c1
        refine lv_iconst (v := -1) hx hb dX2_placeOfDifferent_48 (by decide) ?_
        have hi2 : n0 - i = 0 := by omega
        exact rd_i hx hb hr hlocks dX2_placeOfDifferent_49 (by rw [hR, hi2]; rfl)
      · have c1 : ¬ (n0 ≤ i) := fun h => c1 ((nI_leI (by omega) (by omega)).mpr h)
        have hgi := hg i (by omega)
        obtain ⟨kk, hkk⟩ : ∃ kk, n0 - i = kk + 1 := ⟨n0 - i - 1, by omega⟩
        refine lv_aload_n hx hb dX2_placeOfDifferent_13 rfl (lv_at hl 2 rfl) ?_
        refine va_get (D := D) (ci := 2) (v := .ref hn) (C := RX2) (T := TX2) (N := 7) hx hb hts hin2 hown hK hP 0 rfl rfl 0 (by decide) kf12 (fun _ h9 => h9) rfl dX2_placeOfDifferent_14 ?_
        refine lv_aload_n hx hb dX2_placeOfDifferent_17 rfl (lv_at hl 3 rfl) ?_
        refine lv_iload hx hb dX2_placeOfDifferent_18 (lv_at hl 1 rfl) ?_
        refine va_iald hx hb hK hP 8 0 rfl rfl (vp_in_nI (by omega) (by omega)) dX2_placeOfDifferent_20 ?_
        refine tp_i (show (fun j => nI (nA j)) (nI i).toNatClampNeg = nI (nA i) from congrArg (fun j => nI (nA j)) (nI_clamp (by omega))) ?_
        refine lv_aload_n hx hb dX2_placeOfDifferent_21 rfl (lv_at hl 4 rfl) ?_
        refine lv_iload hx hb dX2_placeOfDifferent_22 (lv_at hl 1 rfl) ?_
        refine va_iald hx hb hK hP 12 0 rfl rfl (vp_in_nI (by omega) (by omega)) dX2_placeOfDifferent_24 ?_
        refine tp_i (show (fun j => nI (nB j)) (nI i).toNatClampNeg = nI (nB i) from congrArg (fun j => nI (nB j)) (nI_clamp (by omega))) ?_
        refine rd_V (As := [.int (nI (nA i)), .int (nI (nB i))]) (rest := []) ⟨hx, hb, hml, hown, hts⟩ (c_X1_areSame l D cI cJ hn ow fi ma ro cnt len fo ff fk fr (nA i) (nB i) (by omega) (by omega)) (cwV 2 hts gX2_placeOfDifferent_X1_areSame rfl rfl rfl (by decide +kernel) ⟨Nat.le_of_ble_eq_true rfl, Nat.le_of_ble_eq_true rfl⟩) (rd_pv (ci := 1) (q0 := 0) hK (hP.sub (ws' := [(hn, .inr (1, [.int (nI cnt), .ref ow, .ref fi, .ref ma, .ref ro])), (ow, .inl (cI, 400, .inl fo)), (fi, .inl (cI, 400, .inl ff)), (ma, .inl (cJ, 400, .inr (.inl fk))), (ro, .inl (cJ, len, .inr (.inl fr)))]) [1, 2, 3, 4, 5] rfl) rfl rfl) rfl hl.1 rfl (Nat.le_of_ble_eq_true rfl) dX2_placeOfDifferent_25 ⟨Nat.zero_le _, Nat.zero_le _⟩ ?_
        refine lv_if_ne (tgt := 42) hx hb dX2_placeOfDifferent_28 (by decide) (fun c2 => ?_) (fun c2 => ?_)
        · have c2 : fs1 ff (nA i) = fs1 ff (nB i) := by simpa using fun h => c2 (zI_eq0.mpr h)
          refine lv_iinc (v := nI (i + 1)) (lv' := [(6, .int (nI (i + 1))), (5, .int (nI lf)), (0, .ref h), (1, .ref na), (2, .ref nb), (3, .int (nI n0)), (4, .int (nI k))]) hx hb dX2_placeOfDifferent_42 hl (k := 1) rfl (nI_add i 1) (by decide) rfl (fun ls hl => ?_)
          refine lv_goto (tgt := 7) hx hb dX2_placeOfDifferent_45 (by decide) ?_
          exact ih (i + 1) lf (by omega) (hlf) (by rw [hR, hkk, show n0 - (i + 1) = kk by omega]; simp [pdF, c2]) (by omega) ls (lv_sub hl [1, 0, 2, 3, 4, 5, 6] rfl)
        · have c2 : ¬ fs1 ff (nA i) = fs1 ff (nB i) := by simpa using zI_eq0.mp c2
          refine lv_iload hx hb dX2_placeOfDifferent_31 (lv_at hl 0 rfl) ?_
          refine lv_if_ne (tgt := 39) hx hb dX2_placeOfDifferent_33 (by decide) (fun c3 => ?_) (fun c3 => ?_)
          · have c3 : ¬ lf = 0 := fun h => c3 (by rw [h]; rfl)
            refine lv_iinc (v := nI (lf - 1)) (lv' := [(5, .int (nI (lf - 1))), (6, .int (nI i)), (0, .ref h), (1, .ref na), (2, .ref nb), (3, .int (nI n0)), (4, .int (nI k))]) hx hb dX2_placeOfDifferent_39 hl (k := 0) rfl (sb_m1 (by omega)) (by decide) rfl (fun ls hl => ?_)
            refine lv_iinc (v := nI (i + 1)) (lv' := [(6, .int (nI (i + 1))), (5, .int (nI (lf - 1))), (0, .ref h), (1, .ref na), (2, .ref nb), (3, .int (nI n0)), (4, .int (nI k))]) hx hb dX2_placeOfDifferent_42 hl (k := 1) rfl (nI_add i 1) (by decide) rfl (fun ls hl => ?_)
            refine lv_goto (tgt := 7) hx hb dX2_placeOfDifferent_45 (by decide) ?_
            exact ih (i + 1) (lf - 1) (by omega) (by omega) (by rw [hR, hkk, show n0 - (i + 1) = kk by omega]; simp [pdF, c2, c3]) (by omega) ls (lv_sub hl [1, 0, 2, 3, 4, 5, 6] rfl)
          · have c3 : lf = 0 := by by_cases hz : lf = 0; exact hz; exact absurd c3 (nI_ne0 (by omega) hlf)
            refine lv_iload hx hb dX2_placeOfDifferent_36 (lv_at hl 1 rfl) ?_
            exact rd_i hx hb hr hlocks dX2_placeOfDifferent_38 (by rw [hR, hkk]; simp [pdF, c2, c3])
  exact loop (n0 - 0 + 1) 0 k (by omega) (hk) (rfl) (by omega) ls (lv_sub hl [1, 0, 2, 3, 4, 5, 6] rfl)
set_option maxHeartbeats 4000000 in
set_option maxRecDepth 100000 in
/-- the k-th start that differs, or the numbers of outputs -/
theorem c_X2_differentStartOrSize (k : Nat) (hk : k < 2 ^ 31) (hr1 : rA < 16) (hr2 : rB < 16) (hlc : lc ≤ 4) (ho1 : oA ≤ 16) (ho2 : oB ≤ 16) : Met l yX2_differentStartOrSize wsX2_differentStartOrSize { frames := 0, cells := 0, slots := 0, locals := 0 } (re_P D [(cI, .int), (cJ, .long)] (xW h hn ow fi ma ro ha oa na sa he ob nb sb cI cJ ic lc stp ap cnt len fo ff fk fr oA cA rA tA gA nA sA oB cB rB tB gB nB sB) tp [.ref h, .int (nI k)]) (k2_QcV (.int (dsF (rA ^^^ rB) oA oB lc 0 k))) 0 0 (fun _ => False) := by
  refine Met.ofW (cc := cX2_differentStartOrSize) (maxL := 5) (ret := (some .int)) (by decide) rfl ?_
  intro p e s m args below meth c s₁ B hml hv
  obtain ⟨rfl, ⟨hP, hK⟩, hE⟩ := hv
  have hx := B.exec
  have hb := B.bytes
  have hr := B.returns
  have hts := atoms_spec (ws := wsX2_differentStartOrSize) B.pre
  have hown : s.vm.findClass RX2 = some m.cls := findClass_of_methodNamed B.named
  have hlocks := B.notSynchronized
  have hl := lv_entry ([.ref h, .int (nI k)]) (n := 5) (Nat.le_of_ble_eq_true rfl)
  rw [lg_entry_eq]
  generalize (lg_sl ([.ref h, .int (nI k)]) ++ List.replicate (5 - (lg_sl ([.ref h, .int (nI k)])).length) Slot.unset).toArray = ls at hl ⊢
  have hl : lv_has ls 5 [(0, .ref h), (1, .int (nI k))] := hl
  have hP : va_P D vwCl [(h, .inr (2, [.ref hn, .ref ha, .ref he, .int (nI ic), .int (nI lc), .int (nI stp), .int ap])), (hn, .inr (1, [.int (nI cnt), .ref ow, .ref fi, .ref ma, .ref ro])), (ow, .inl (cI, 400, .inl fo)), (fi, .inl (cI, 400, .inl ff)), (ma, .inl (cJ, 400, .inr (.inl fk))), (ro, .inl (cJ, len, .inr (.inl fr))), (ha, .inr (0, [.ref oa, .ref na, .ref sa, .int (nI oA), .int (nI cA), .int (nI rA), .int (nI tA)])), (oa, .inl (cI, 16, .inl (fun j => nI (gA j)))), (na, .inl (cI, 4, .inl (fun j => nI (nA j)))), (sa, .inl (cI, 16, .inl sA)), (he, .inr (0, [.ref ob, .ref nb, .ref sb, .int (nI oB), .int (nI cB), .int (nI rB), .int (nI tB)])), (ob, .inl (cI, 16, .inl (fun j => nI (gB j)))), (nb, .inl (cI, 4, .inl (fun j => nI (nB j)))), (sb, .inl (cI, 16, .inl sB))] s.heap := hP
  have hin0 : ∀ w ∈ wsX00, w ∈ wsX2_differentStartOrSize := by decide +kernel
  have hin2 : ∀ w ∈ wsX20, w ∈ wsX2_differentStartOrSize := by decide +kernel
  have kf19 := hts (.fieldLink RX2 19 "SweepEqual" "designA" "LSweepEqual$Design;") (by decide +kernel)
  have kf205 := hts (.fieldLink RX2 205 "SweepEqual$Design" "starts" "I") (by decide +kernel)
  have kf23 := hts (.fieldLink RX2 23 "SweepEqual" "designB" "LSweepEqual$Design;") (by decide +kernel)
  have kf47 := hts (.fieldLink RX2 47 "SweepEqual" "latchCount" "I") (by decide +kernel)
  have kf81 := hts (.fieldLink RX2 81 "SweepEqual$Design" "outputCount" "I") (by decide +kernel)
  have hxx : rA ^^^ rB < 2 ^ 4 := Nat.xor_lt_two_pow (by omega) (by omega)
  refine lv_iload_n hx hb dX2_differentStartOrSize_0 rfl (lv_at hl 1 rfl) ?_
  refine lv_istore_n (lv' := [(2, .int (nI k)), (0, .ref h), (1, .int (nI k))]) hx hb dX2_differentStartOrSize_1 rfl hl (by decide) rfl (fun ls hl => ?_)
  refine lv_aload_n hx hb dX2_differentStartOrSize_2 rfl (lv_at hl 1 rfl) ?_
  refine va_get (D := D) (ci := 2) (v := .ref ha) (C := RX2) (T := TX2) (N := 7) hx hb hts hin2 hown hK hP 0 rfl rfl 1 (by decide) kf19 (fun _ h9 => h9) rfl dX2_differentStartOrSize_3 ?_
  refine va_get (D := D) (ci := 0) (v := .int (nI rA)) (C := RX0) (T := TX0) (N := 7) hx hb hts hin0 hown hK hP 6 rfl rfl 5 (by decide) kf205 (fun _ h9 => h9) rfl dX2_differentStartOrSize_6 ?_
  refine lv_aload_n hx hb dX2_differentStartOrSize_9 rfl (lv_at hl 1 rfl) ?_
  refine va_get (D := D) (ci := 2) (v := .ref he) (C := RX2) (T := TX2) (N := 7) hx hb hts hin2 hown hK hP 0 rfl rfl 2 (by decide) kf23 (fun _ h9 => h9) rfl dX2_differentStartOrSize_10 ?_
  refine va_get (D := D) (ci := 0) (v := .int (nI rB)) (C := RX0) (T := TX0) (N := 7) hx hb hts hin0 hown hK hP 10 rfl rfl 5 (by decide) kf205 (fun _ h9 => h9) rfl dX2_differentStartOrSize_13 ?_
  refine lv_ixor hx hb dX2_differentStartOrSize_16 ?_
  refine tp_i (show (nI rA) ^^^ (nI rB) = nI (rA ^^^ rB) from n_xor _ _) ?_
  refine lv_istore_n (lv' := [(3, .int (nI (rA ^^^ rB))), (2, .int (nI k)), (0, .ref h), (1, .int (nI k))]) hx hb dX2_differentStartOrSize_17 rfl hl (by decide) rfl (fun ls hl => ?_)
  refine lv_iconst (v := nI 0) hx hb dX2_differentStartOrSize_18 (by decide) ?_
  refine lv_istore (lv' := [(4, .int (nI 0)), (3, .int (nI (rA ^^^ rB))), (2, .int (nI k)), (0, .ref h), (1, .int (nI k))]) hx hb dX2_differentStartOrSize_19 hl (by decide) rfl (fun ls hl => ?_)
  have loop : ∀ (n : Nat) (i : Nat) (lf : Nat), i ≤ lc → lf < 2 ^ 31 → dsF (rA ^^^ rB) oA oB lc 0 k = dsF (rA ^^^ rB) oA oB (lc - i) i lf → lc - i < n → ∀ ls : Array Slot, lv_has ls 5 [(4, .int (nI i)), (3, .int (nI (rA ^^^ rB))), (2, .int (nI lf)), (0, .ref h), (1, .int (nI k))] → W p l e (headSpec wsX2_differentStartOrSize { frames := 0, cells := 0, slots := 0, locals := 0 }).room s m ([.ref h, .int (nI k)] : List Value).toArray below meth c s.heap [] 0 0 (MQ below (k2_QcV (.int (dsF (rA ^^^ rB) oA oB lc 0 k))) ([.ref h, .int (nI k)] : List Value).toArray s 0 0 (fun _ => False)) (F0 m 21 ls []) := by
    intro n
    induction n with
    | zero => intro i lf hi hlf hR hM; exact absurd hM (Nat.not_lt_zero _)
    | succ n ih =>
      intro i lf hi hlf hR hM ls hl
      have hq : (rA ^^^ rB) / 2 ^ i ≤ rA ^^^ rB := Nat.div_le_self _ _
      refine lv_iload hx hb dX2_differentStartOrSize_21 (lv_at hl 0 rfl) ?_
      refine lv_aload_n hx hb dX2_differentStartOrSize_23 rfl (lv_at hl 3 rfl) ?_
      refine va_get (D := D) (ci := 2) (v := .int (nI lc)) (C := RX2) (T := TX2) (N := 7) hx hb hts hin2 hown hK hP 0 rfl rfl 4 (by decide) kf47 (fun _ h9 => h9) rfl dX2_differentStartOrSize_24 ?_
      refine lv_icmp_ge (tgt := 60) hx hb dX2_differentStartOrSize_27 (by decide) (fun c1 => ?_) (fun c1 => ?_)
      · have c1 : lc ≤ i := (nI_leI (by omega) (by omega)).mp c1
        have hi2 : lc - i = 0 := by omega
        refine lv_iload_n hx hb dX2_differentStartOrSize_60 rfl (lv_at hl 2 rfl) ?_
        refine lv_if_ne (tgt := 87) hx hb dX2_differentStartOrSize_61 (by decide) (fun c2 => ?_) (fun c2 => ?_)
        · have c2 : ¬ lf = 0 := fun h => c2 (by rw [h]; rfl)
          refine lv_iconst (v := -1) hx hb dX2_differentStartOrSize_87 (by decide) ?_
          exact rd_i hx hb hr hlocks dX2_differentStartOrSize_88 (by rw [hR, hi2]; simp [dsF, c2])
        · have c2 : lf = 0 := by by_cases hz : lf = 0; exact hz; exact absurd c2 (nI_ne0 (by omega) hlf)
          refine lv_aload_n hx hb dX2_differentStartOrSize_64 rfl (lv_at hl 3 rfl) ?_
          refine va_get (D := D) (ci := 2) (v := .ref ha) (C := RX2) (T := TX2) (N := 7) hx hb hts hin2 hown hK hP 0 rfl rfl 1 (by decide) kf19 (fun _ h9 => h9) rfl dX2_differentStartOrSize_65 ?_
          refine va_get (D := D) (ci := 0) (v := .int (nI oA)) (C := RX0) (T := TX0) (N := 7) hx hb hts hin0 hown hK hP 6 rfl rfl 3 (by decide) kf81 (fun _ h9 => h9) rfl dX2_differentStartOrSize_68 ?_
          refine lv_aload_n hx hb dX2_differentStartOrSize_71 rfl (lv_at hl 3 rfl) ?_
          refine va_get (D := D) (ci := 2) (v := .ref he) (C := RX2) (T := TX2) (N := 7) hx hb hts hin2 hown hK hP 0 rfl rfl 2 (by decide) kf23 (fun _ h9 => h9) rfl dX2_differentStartOrSize_72 ?_
          refine va_get (D := D) (ci := 0) (v := .int (nI oB)) (C := RX0) (T := TX0) (N := 7) hx hb hts hin0 hown hK hP 10 rfl rfl 3 (by decide) kf81 (fun _ h9 => h9) rfl dX2_differentStartOrSize_75 ?_
          refine lv_icmp_eq (tgt := 87) hx hb dX2_differentStartOrSize_78 (by decide) (fun c3 => ?_) (fun c3 => ?_)
          · have c3 : oA = oB := (nI_eq (by omega) (by omega)).mp c3
            refine lv_iconst (v := -1) hx hb dX2_differentStartOrSize_87 (by decide) ?_
            exact rd_i hx hb hr hlocks dX2_differentStartOrSize_88 (by rw [hR, hi2]; simp [dsF, c2, c3])
          · have c3 : ¬ oA = oB := fun h => c3 ((nI_eq (by omega) (by omega)).mpr h)
            refine lv_sipush (v := nI 300) hx hb dX2_differentStartOrSize_81 (by decide) ?_
            refine lv_goto (tgt := 88) hx hb dX2_differentStartOrSize_84 (by decide) ?_
            exact rd_i hx hb hr hlocks dX2_differentStartOrSize_88 (by rw [hR, hi2]; simp [dsF, c2, c3])
      · have c1 : ¬ (lc ≤ i) := fun h => c1 ((nI_leI (by omega) (by omega)).mpr h)
        obtain ⟨kk, hkk⟩ : ∃ kk, lc - i = kk + 1 := ⟨lc - i - 1, by omega⟩
        refine lv_iload_n hx hb dX2_differentStartOrSize_30 rfl (lv_at hl 1 rfl) ?_
        refine lv_iload hx hb dX2_differentStartOrSize_31 (lv_at hl 0 rfl) ?_
        refine lv_ishr hx hb dX2_differentStartOrSize_33 ?_
        refine tp_i (show (nI (rA ^^^ rB)) >>> ((nI i) &&& 31) = nI ((rA ^^^ rB) / 2 ^ i) from n_shr (by omega) (by omega)) ?_
        refine lv_iconst (v := nI 1) hx hb dX2_differentStartOrSize_34 (by decide) ?_
        refine lv_iand hx hb dX2_differentStartOrSize_35 ?_
        refine tp_i (show (nI ((rA ^^^ rB) / 2 ^ i)) &&& (nI 1) = nI (((rA ^^^ rB) / 2 ^ i) % 2) from n_and1 (by omega)) ?_
        refine lv_iconst (v := nI 1) hx hb dX2_differentStartOrSize_36 (by decide) ?_
        refine lv_icmp_ne (tgt := 54) hx hb dX2_differentStartOrSize_37 (by decide) (fun c2 => ?_) (fun c2 => ?_)
        · have c2 : ¬ ((rA ^^^ rB) / 2 ^ i) % 2 = 1 := fun h => c2 ((nI_eq (by omega) (by omega)).mpr h)
          refine lv_iinc (v := nI (i + 1)) (lv' := [(4, .int (nI (i + 1))), (3, .int (nI (rA ^^^ rB))), (2, .int (nI lf)), (0, .ref h), (1, .int (nI k))]) hx hb dX2_differentStartOrSize_54 hl (k := 0) rfl (nI_add i 1) (by decide) rfl (fun ls hl => ?_)
          refine lv_goto (tgt := 21) hx hb dX2_differentStartOrSize_57 (by decide) ?_
          exact ih (i + 1) lf (by omega) (hlf) (by rw [hR, hkk, show lc - (i + 1) = kk by omega]; simp [dsF, c2]) (by omega) ls (lv_sub hl [0, 1, 2, 3, 4] rfl)
        · have c2 : ((rA ^^^ rB) / 2 ^ i) % 2 = 1 := (nI_eq (by omega) (by omega)).mp c2
          refine lv_iload_n hx hb dX2_differentStartOrSize_40 rfl (lv_at hl 2 rfl) ?_
          refine lv_if_ne (tgt := 51) hx hb dX2_differentStartOrSize_41 (by decide) (fun c3 => ?_) (fun c3 => ?_)
          · have c3 : ¬ lf = 0 := fun h => c3 (by rw [h]; rfl)
            refine lv_iinc (v := nI (lf - 1)) (lv' := [(2, .int (nI (lf - 1))), (4, .int (nI i)), (3, .int (nI (rA ^^^ rB))), (0, .ref h), (1, .int (nI k))]) hx hb dX2_differentStartOrSize_51 hl (k := 2) rfl (sb_m1 (by omega)) (by decide) rfl (fun ls hl => ?_)
            refine lv_iinc (v := nI (i + 1)) (lv' := [(4, .int (nI (i + 1))), (2, .int (nI (lf - 1))), (3, .int (nI (rA ^^^ rB))), (0, .ref h), (1, .int (nI k))]) hx hb dX2_differentStartOrSize_54 hl (k := 1) rfl (nI_add i 1) (by decide) rfl (fun ls hl => ?_)
            refine lv_goto (tgt := 21) hx hb dX2_differentStartOrSize_57 (by decide) ?_
            exact ih (i + 1) (lf - 1) (by omega) (by omega) (by rw [hR, hkk, show lc - (i + 1) = kk by omega]; simp [dsF, c2, c3]) (by omega) ls (lv_sub hl [0, 2, 1, 3, 4] rfl)
          · have c3 : lf = 0 := by by_cases hz : lf = 0; exact hz; exact absurd c3 (nI_ne0 (by omega) hlf)
            refine lv_sipush (v := nI 200) hx hb dX2_differentStartOrSize_44 (by decide) ?_
            refine lv_iload hx hb dX2_differentStartOrSize_47 (lv_at hl 0 rfl) ?_
            refine lv_iadd hx hb dX2_differentStartOrSize_49 ?_
            refine tp_i (show (nI 200) + (nI i) = nI (200 + i) from nI_add _ _) ?_
            exact rd_i hx hb hr hlocks dX2_differentStartOrSize_50 (by rw [hR, hkk]; simp [dsF, c2, c3])
  exact loop (lc - 0 + 1) 0 k (by omega) (hk) (rfl) (by omega) ls (lv_sub hl [0, 1, 2, 3, 4] rfl)
set_option maxHeartbeats 4000000 in
set_option maxRecDepth 100000 in
/-- whether the latest outputs are apart -/
theorem c_X2_showApart (hc1 : cA ≤ 16) (hc2 : cB ≤ 16) : Met l yX2_showApart wsX2_showApart { frames := 1, cells := 0, slots := 0, locals := 13 } (re_P D [(cI, .int), (cJ, .long)] (xW h hn ow fi ma ro ha oa na sa he ob nb sb cI cJ ic lc stp ap cnt len fo ff fk fr oA cA rA tA gA nA sA oB cB rB tB gB nB sB) tp [.ref h]) (k2_QcV (.int (zI (saF sA sB (min cA cB) 0)))) 0 0 (fun _ => False) := by
  refine Met.ofW (cc := cX2_showApart) (maxL := 3) (ret := (some .boolean)) (by decide) rfl ?_
  intro p e s m args below meth c s₁ B hml hv
  obtain ⟨rfl, ⟨hP, hK⟩, hE⟩ := hv
  have hx := B.exec
  have hb := B.bytes
  have hr := B.returns
  have hts := atoms_spec (ws := wsX2_showApart) B.pre
  have hown : s.vm.findClass RX2 = some m.cls := findClass_of_methodNamed B.named
  have hlocks := B.notSynchronized
  have hl := lv_entry ([.ref h]) (n := 3) (Nat.le_of_ble_eq_true rfl)
  rw [lg_entry_eq]
  generalize (lg_sl ([.ref h]) ++ List.replicate (3 - (lg_sl ([.ref h])).length) Slot.unset).toArray = ls at hl ⊢
  have hl : lv_has ls 3 [(0, .ref h)] := hl
  have hP : va_P D vwCl [(h, .inr (2, [.ref hn, .ref ha, .ref he, .int (nI ic), .int (nI lc), .int (nI stp), .int ap])), (hn, .inr (1, [.int (nI cnt), .ref ow, .ref fi, .ref ma, .ref ro])), (ow, .inl (cI, 400, .inl fo)), (fi, .inl (cI, 400, .inl ff)), (ma, .inl (cJ, 400, .inr (.inl fk))), (ro, .inl (cJ, len, .inr (.inl fr))), (ha, .inr (0, [.ref oa, .ref na, .ref sa, .int (nI oA), .int (nI cA), .int (nI rA), .int (nI tA)])), (oa, .inl (cI, 16, .inl (fun j => nI (gA j)))), (na, .inl (cI, 4, .inl (fun j => nI (nA j)))), (sa, .inl (cI, 16, .inl sA)), (he, .inr (0, [.ref ob, .ref nb, .ref sb, .int (nI oB), .int (nI cB), .int (nI rB), .int (nI tB)])), (ob, .inl (cI, 16, .inl (fun j => nI (gB j)))), (nb, .inl (cI, 4, .inl (fun j => nI (nB j)))), (sb, .inl (cI, 16, .inl sB))] s.heap := hP
  have hin0 : ∀ w ∈ wsX00, w ∈ wsX2_showApart := by decide +kernel
  have hin2 : ∀ w ∈ wsX20, w ∈ wsX2_showApart := by decide +kernel
  have kf19 := hts (.fieldLink RX2 19 "SweepEqual" "designA" "LSweepEqual$Design;") (by decide +kernel)
  have kf160 := hts (.fieldLink RX2 160 "SweepEqual$Design" "shownCount" "I") (by decide +kernel)
  have kf23 := hts (.fieldLink RX2 23 "SweepEqual" "designB" "LSweepEqual$Design;") (by decide +kernel)
  have kf163 := hts (.fieldLink RX2 163 "SweepEqual$Design" "shown" "[I") (by decide +kernel)
  refine lv_aload_n hx hb dX2_showApart_0 rfl (lv_at hl 0 rfl) ?_
  refine va_get (D := D) (ci := 2) (v := .ref ha) (C := RX2) (T := TX2) (N := 7) hx hb hts hin2 hown hK hP 0 rfl rfl 1 (by decide) kf19 (fun _ h9 => h9) rfl dX2_showApart_1 ?_
  refine va_get (D := D) (ci := 0) (v := .int (nI cA)) (C := RX0) (T := TX0) (N := 7) hx hb hts hin0 hown hK hP 6 rfl rfl 4 (by decide) kf160 (fun _ h9 => h9) rfl dX2_showApart_4 ?_
  refine lv_aload_n hx hb dX2_showApart_7 rfl (lv_at hl 0 rfl) ?_
  refine va_get (D := D) (ci := 2) (v := .ref he) (C := RX2) (T := TX2) (N := 7) hx hb hts hin2 hown hK hP 0 rfl rfl 2 (by decide) kf23 (fun _ h9 => h9) rfl dX2_showApart_8 ?_
  refine va_get (D := D) (ci := 0) (v := .int (nI cB)) (C := RX0) (T := TX0) (N := 7) hx hb hts hin0 hown hK hP 10 rfl rfl 4 (by decide) kf160 (fun _ h9 => h9) rfl dX2_showApart_11 ?_
  refine va_mmin hx hb (by rw [hml]; exact hl.1.symm) hown (hts (.methodLink RX2 200 Lib.Math.min.name) (by decide +kernel)) (hts (.static Lib.Math.min.name) (by decide +kernel)) (hts (.initialized "java/lang/Math") (by decide +kernel)) (hts (.code Lib.Math.min.name Lib.Math.min.code 2 (some .int)) (by decide +kernel)) (Nat.le_of_ble_eq_true rfl) (Nat.le_of_ble_eq_true rfl) (Nat.zero_le _) (Nat.zero_le _) dX2_showApart_14 ?_
  refine tp_i (show (if nI cB < nI cA then nI cB else nI cA) = nI (min cA cB) from min_I (by omega) (by omega)) ?_
  refine lv_istore_n (lv' := [(1, .int (nI (min cA cB))), (0, .ref h)]) hx hb dX2_showApart_17 rfl hl (by decide) rfl (fun ls hl => ?_)
  refine lv_iconst (v := nI 0) hx hb dX2_showApart_18 (by decide) ?_
  refine lv_istore_n (lv' := [(2, .int (nI 0)), (1, .int (nI (min cA cB))), (0, .ref h)]) hx hb dX2_showApart_19 rfl hl (by decide) rfl (fun ls hl => ?_)
  have loop : ∀ (n : Nat) (i : Nat), i ≤ min cA cB → saF sA sB (min cA cB) 0 = saF sA sB (min cA cB - i) i → min cA cB - i < n → ∀ ls : Array Slot, lv_has ls 3 [(2, .int (nI i)), (1, .int (nI (min cA cB))), (0, .ref h)] → W p l e (headSpec wsX2_showApart { frames := 1, cells := 0, slots := 0, locals := 13 }).room s m ([.ref h] : List Value).toArray below meth c s.heap [] 0 0 (MQ below (k2_QcV (.int (zI (saF sA sB (min cA cB) 0)))) ([.ref h] : List Value).toArray s 0 0 (fun _ => False)) (F0 m 20 ls []) := by
    intro n
    induction n with
    | zero => intro i hi hR hM; exact absurd hM (Nat.not_lt_zero _)
    | succ n ih =>
      intro i hi hR hM ls hl
      refine lv_iload_n hx hb dX2_showApart_20 rfl (lv_at hl 0 rfl) ?_
      refine lv_iload_n hx hb dX2_showApart_21 rfl (lv_at hl 1 rfl) ?_
      refine lv_icmp_ge (tgt := 54) hx hb dX2_showApart_22 (by decide) (fun c1 => ?_) (fun c1 => ?_)
      · have c1 : min cA cB ≤ i := (nI_leI (by omega) (by omega)).mp c1
        refine lv_iconst (v := nI 0) hx hb dX2_showApart_54 (by decide) ?_
        have hi2 : min cA cB - i = 0 := by omega
        exact rd_z hx hb hr hlocks dX2_showApart_55 (by rw [hR, hi2]; rfl) (zI_01 _)
      · have c1 : ¬ (min cA cB ≤ i) := fun h => c1 ((nI_leI (by omega) (by omega)).mpr h)
        obtain ⟨kk, hkk⟩ : ∃ kk, min cA cB - i = kk + 1 := ⟨min cA cB - i - 1, by omega⟩
        refine lv_aload_n hx hb dX2_showApart_25 rfl (lv_at hl 2 rfl) ?_
        refine va_get (D := D) (ci := 2) (v := .ref ha) (C := RX2) (T := TX2) (N := 7) hx hb hts hin2 hown hK hP 0 rfl rfl 1 (by decide) kf19 (fun _ h9 => h9) rfl dX2_showApart_26 ?_
        refine va_get (D := D) (ci := 0) (v := .ref sa) (C := RX0) (T := TX0) (N := 7) hx hb hts hin0 hown hK hP 6 rfl rfl 2 (by decide) kf163 (fun _ h9 => h9) rfl dX2_showApart_29 ?_
        refine lv_iload_n hx hb dX2_showApart_32 rfl (lv_at hl 0 rfl) ?_
        refine va_iald hx hb hK hP 9 0 rfl rfl (vp_in_nI (by omega) (by omega)) dX2_showApart_33 ?_
        refine tp_i (show sA (nI i).toNatClampNeg = sA i from congrArg sA (nI_clamp (by omega))) ?_
        refine lv_aload_n hx hb dX2_showApart_34 rfl (lv_at hl 2 rfl) ?_
        refine va_get (D := D) (ci := 2) (v := .ref he) (C := RX2) (T := TX2) (N := 7) hx hb hts hin2 hown hK hP 0 rfl rfl 2 (by decide) kf23 (fun _ h9 => h9) rfl dX2_showApart_35 ?_
        refine va_get (D := D) (ci := 0) (v := .ref sb) (C := RX0) (T := TX0) (N := 7) hx hb hts hin0 hown hK hP 10 rfl rfl 2 (by decide) kf163 (fun _ h9 => h9) rfl dX2_showApart_38 ?_
        refine lv_iload_n hx hb dX2_showApart_41 rfl (lv_at hl 0 rfl) ?_
        refine va_iald hx hb hK hP 13 0 rfl rfl (vp_in_nI (by omega) (by omega)) dX2_showApart_42 ?_
        refine tp_i (show sB (nI i).toNatClampNeg = sB i from congrArg sB (nI_clamp (by omega))) ?_
        refine lv_icmp_eq (tgt := 48) hx hb dX2_showApart_43 (by decide) (fun c2 => ?_) (fun c2 => ?_)
        · refine lv_iinc (v := nI (i + 1)) (lv' := [(2, .int (nI (i + 1))), (1, .int (nI (min cA cB))), (0, .ref h)]) hx hb dX2_showApart_48 hl (k := 0) rfl (nI_add i 1) (by decide) rfl (fun ls hl => ?_)
          refine lv_goto (tgt := 20) hx hb dX2_showApart_51 (by decide) ?_
          exact ih (i + 1) (by omega) (by rw [hR, hkk, show min cA cB - (i + 1) = kk by omega]; simp [saF, c2]) (by omega) ls (lv_sub hl [0, 1, 2] rfl)
        · refine lv_iconst (v := nI 1) hx hb dX2_showApart_46 (by decide) ?_
          exact rd_z hx hb hr hlocks dX2_showApart_47 (by rw [hR, hkk]; simp [saF, c2, zI, nI_one]) (zI_01 _)
  exact loop (min cA cB - 0 + 1) 0 (by omega) (rfl) (by omega) ls (lv_sub hl [0, 1, 2] rfl)
end XB
