/-! SweepEqual: readers that ask Nodes, and their throws. -/
section RA
variable {p : Program} {l : Launch} {e : Env} {R : Room} {s : State} {m : MethodId} {args : Array Value} {below : List Frame} {meth : Method} {c : Code} {cc : ByteArray} {pc : Nat} {ls : Array Slot}
theorem rd_a {v w : Nat} {rt : FieldType} (hx : p.tables.exec = Jvm.exec) (hb : c.code = cc) (hr : meth.sig.returnType = some rt) (hrt : (∃ n, rt = .object n) ∨ ∃ t, rt = .array t) (hlocks : meth.locks = false) (hdg : decode cc pc = .ok (.areturn, 1)) (h : v = w) : W p l e R s m args below meth c s.heap [] 0 0 (MQ below (k2_QcV (.ref w)) args s 0 0 (fun _ => False)) (F0 m pc ls [.ref v]) := by
  rw [h]
  exact W.aret hx hb hr hrt (Or.inr ⟨w, rfl⟩) (fun t ht _ => ⟨rfl, ht⟩) (fun q h => absurd h List.not_mem_nil) hdg hlocks
end RA
section XRd
variable (l : Launch) (D : va_G) (cI cJ : ClassId) (tp : Nat) (h hn ow fi ma ro ha oa na sa he ob nb sb : Nat) (ic lc stp : Nat) (ap : Int32) (cnt len : Nat) (fo ff : Nat → Int32) (fk fr : Nat → Int64) (oA cA rA tA : Nat) (gA nA : Nat → Nat) (sA : Nat → Int32) (oB cB rB tB : Nat) (gB nB : Nat → Nat) (sB : Nat → Int32)
set_option maxHeartbeats 4000000 in
set_option maxRecDepth 100000 in
/-- same -/
theorem c_X2_same (la lb : Nat) (h1 : la < 2 * cnt) (h2 : lb < 2 * cnt) (hc : cnt ≤ 400) : Met l yX2_same wsX2_same { frames := 2, cells := 0, slots := 0, locals := 43 } (re_P D [(cI, .int), (cJ, .long)] (xW h hn ow fi ma ro ha oa na sa he ob nb sb cI cJ ic lc stp ap cnt len fo ff fk fr oA cA rA tA gA nA sA oB cB rB tB gB nB sB) tp [.ref h, .int (nI la), .int (nI lb)]) (k2_QcV (.int (zI (decide (fs1 ff la = fs1 ff lb))))) 0 0 (fun _ => False) := by
  refine Met.ofW (cc := cX2_same) (maxL := 3) (ret := (some .boolean)) (by decide) rfl ?_
  intro p e s m args below meth c s₁ B hml hv
  obtain ⟨rfl, ⟨hP, hK⟩, hE⟩ := hv
  have hx := B.exec
  have hb := B.bytes
  have hr := B.returns
  have hts := atoms_spec (ws := wsX2_same) B.pre
  have hown : s.vm.findClass RX2 = some m.cls := findClass_of_methodNamed B.named
  have hlocks := B.notSynchronized
  have hl := lv_entry ([.ref h, .int (nI la), .int (nI lb)]) (n := 3) (Nat.le_of_ble_eq_true rfl)
  rw [lg_entry_eq]
  generalize (lg_sl ([.ref h, .int (nI la), .int (nI lb)]) ++ List.replicate (3 - (lg_sl ([.ref h, .int (nI la), .int (nI lb)])).length) Slot.unset).toArray = ls at hl ⊢
  have hl : lv_has ls 3 [(0, .ref h), (1, .int (nI la)), (2, .int (nI lb))] := hl
  have hP : va_P D vwCl [(h, .inr (2, [.ref hn, .ref ha, .ref he, .int (nI ic), .int (nI lc), .int (nI stp), .int ap])), (hn, .inr (1, [.int (nI cnt), .ref ow, .ref fi, .ref ma, .ref ro])), (ow, .inl (cI, 400, .inl fo)), (fi, .inl (cI, 400, .inl ff)), (ma, .inl (cJ, 400, .inr (.inl fk))), (ro, .inl (cJ, len, .inr (.inl fr))), (ha, .inr (0, [.ref oa, .ref na, .ref sa, .int (nI oA), .int (nI cA), .int (nI rA), .int (nI tA)])), (oa, .inl (cI, 16, .inl (fun j => nI (gA j)))), (na, .inl (cI, 4, .inl (fun j => nI (nA j)))), (sa, .inl (cI, 16, .inl sA)), (he, .inr (0, [.ref ob, .ref nb, .ref sb, .int (nI oB), .int (nI cB), .int (nI rB), .int (nI tB)])), (ob, .inl (cI, 16, .inl (fun j => nI (gB j)))), (nb, .inl (cI, 4, .inl (fun j => nI (nB j)))), (sb, .inl (cI, 16, .inl sB))] s.heap := hP
  have hin2 : ∀ w ∈ wsX20, w ∈ wsX2_same := by decide +kernel
  have kf12 := hts (.fieldLink RX2 12 "SweepEqual" "nodes" "LSweepEqual$Nodes;") (by decide +kernel)
  refine lv_aload_n hx hb dX2_same_0 rfl (lv_at hl 0 rfl) ?_
  refine lv_iload_n hx hb dX2_same_1 rfl (lv_at hl 1 rfl) ?_
  refine rv_V (As := [.int (nI la)]) (rest := []) ⟨hx, hb, hml, hown, hts⟩ (c_X2_needLiteral l D cI cJ tp h hn ow fi ma ro ha oa na sa he ob nb sb ic lc stp ap cnt len fo ff fk fr oA cA rA tA gA nA sA oB cB rB tB gB nB sB la h1 (by omega)) (cwV 1 hts gX2_same_X2_needLiteral rfl rfl rfl (by decide +kernel) ⟨Nat.le_of_ble_eq_true rfl, Nat.le_of_ble_eq_true rfl⟩) (re_pv (ci := 2) (q0 := 0) hK hP hE rfl rfl) rfl hl.1 rfl (Nat.le_of_ble_eq_true rfl) dX2_same_2 ⟨Nat.zero_le _, Nat.zero_le _⟩ ?_
  refine lv_aload_n hx hb dX2_same_5 rfl (lv_at hl 0 rfl) ?_
  refine lv_iload_n hx hb dX2_same_6 rfl (lv_at hl 2 rfl) ?_
  refine rv_V (As := [.int (nI lb)]) (rest := []) ⟨hx, hb, hml, hown, hts⟩ (c_X2_needLiteral l D cI cJ tp h hn ow fi ma ro ha oa na sa he ob nb sb ic lc stp ap cnt len fo ff fk fr oA cA rA tA gA nA sA oB cB rB tB gB nB sB lb h2 (by omega)) (cwV 1 hts gX2_same_X2_needLiteral rfl rfl rfl (by decide +kernel) ⟨Nat.le_of_ble_eq_true rfl, Nat.le_of_ble_eq_true rfl⟩) (re_pv (ci := 2) (q0 := 0) hK hP hE rfl rfl) rfl hl.1 rfl (Nat.le_of_ble_eq_true rfl) dX2_same_7 ⟨Nat.zero_le _, Nat.zero_le _⟩ ?_
  refine lv_aload_n hx hb dX2_same_10 rfl (lv_at hl 0 rfl) ?_
  refine va_get (D := D) (ci := 2) (v := .ref hn) (C := RX2) (T := TX2) (N := 7) hx hb hts hin2 hown hK hP 0 rfl rfl 0 (by decide) kf12 (fun _ h9 => h9) rfl dX2_same_11 ?_
  refine lv_iload_n hx hb dX2_same_14 rfl (lv_at hl 1 rfl) ?_
  refine lv_iload_n hx hb dX2_same_15 rfl (lv_at hl 2 rfl) ?_
  refine rd_V (As := [.int (nI la), .int (nI lb)]) (rest := []) ⟨hx, hb, hml, hown, hts⟩ (c_X1_areSame l D cI cJ hn ow fi ma ro cnt len fo ff fk fr la lb (by omega) (by omega)) (cwV 2 hts gX2_same_X1_areSame rfl rfl rfl (by decide +kernel) ⟨Nat.le_of_ble_eq_true rfl, Nat.le_of_ble_eq_true rfl⟩) (rd_pv (ci := 1) (q0 := 0) hK (hP.sub (ws' := [(hn, .inr (1, [.int (nI cnt), .ref ow, .ref fi, .ref ma, .ref ro])), (ow, .inl (cI, 400, .inl fo)), (fi, .inl (cI, 400, .inl ff)), (ma, .inl (cJ, 400, .inr (.inl fk))), (ro, .inl (cJ, len, .inr (.inl fr)))]) [1, 2, 3, 4, 5] rfl) rfl rfl) rfl hl.1 rfl (Nat.le_of_ble_eq_true rfl) dX2_same_16 ⟨Nat.zero_le _, Nat.zero_le _⟩ ?_
  exact rd_z hx hb hr hlocks dX2_same_19 (rfl) (zI_01 _)
set_option maxHeartbeats 4000000 in
set_option maxRecDepth 100000 in
/-- same: no such first literal -/
theorem t_X2_same1 (hl9 : l.stackTraces = false) (x y : Int32) (hx9 : x < 0 ∨ nI (2 * cnt) ≤ x) : TH l yX2_same wsX2_same { frames := 7, cells := 1, slots := 6, locals := 103 } (re_P D [(cI, .int), (cJ, .long)] (xW h hn ow fi ma ro ha oa na sa he ob nb sb cI cJ ic lc stp ap cnt len fo ff fk fr oA cA rA tA gA nA sA oB cB rB tB gB nB sB) tp [.ref h, .int x, .int y]) "java/lang/IndexOutOfBoundsException" := by
  refine vx_ofW (cc := cX2_same) (maxL := 3) (ret := (some .boolean)) (by decide) rfl ?_
  intro p e s m args below meth c s₁ B hml hno hv
  obtain ⟨rfl, ⟨hP, hK⟩, hE⟩ := hv
  have hx := B.exec
  have hb := B.bytes
  have hr := B.returns
  have hts := atoms_spec (ws := wsX2_same) B.pre
  have hown : s.vm.findClass RX2 = some m.cls := findClass_of_methodNamed B.named
  have hlocks := B.notSynchronized
  have hl := lv_entry ([.ref h, .int x, .int y]) (n := 3) (Nat.le_of_ble_eq_true rfl)
  rw [lg_entry_eq]
  generalize (lg_sl ([.ref h, .int x, .int y]) ++ List.replicate (3 - (lg_sl ([.ref h, .int x, .int y])).length) Slot.unset).toArray = ls at hl ⊢
  have hl : lv_has ls 3 [(0, .ref h), (1, .int x), (2, .int y)] := hl
  have hP : va_P D vwCl [(h, .inr (2, [.ref hn, .ref ha, .ref he, .int (nI ic), .int (nI lc), .int (nI stp), .int ap])), (hn, .inr (1, [.int (nI cnt), .ref ow, .ref fi, .ref ma, .ref ro])), (ow, .inl (cI, 400, .inl fo)), (fi, .inl (cI, 400, .inl ff)), (ma, .inl (cJ, 400, .inr (.inl fk))), (ro, .inl (cJ, len, .inr (.inl fr))), (ha, .inr (0, [.ref oa, .ref na, .ref sa, .int (nI oA), .int (nI cA), .int (nI rA), .int (nI tA)])), (oa, .inl (cI, 16, .inl (fun j => nI (gA j)))), (na, .inl (cI, 4, .inl (fun j => nI (nA j)))), (sa, .inl (cI, 16, .inl sA)), (he, .inr (0, [.ref ob, .ref nb, .ref sb, .int (nI oB), .int (nI cB), .int (nI rB), .int (nI tB)])), (ob, .inl (cI, 16, .inl (fun j => nI (gB j)))), (nb, .inl (cI, 4, .inl (fun j => nI (nB j)))), (sb, .inl (cI, 16, .inl sB))] s.heap := hP
  have hin2 : ∀ w ∈ wsX20, w ∈ wsX2_same := by decide +kernel
  have kf12 := hts (.fieldLink RX2 12 "SweepEqual" "nodes" "LSweepEqual$Nodes;") (by decide +kernel)
  refine lv_aload_n hx hb dX2_same_0 rfl (lv_at hl 0 rfl) ?_
  refine lv_iload_n hx hb dX2_same_1 rfl (lv_at hl 1 rfl) ?_
  exact th_V (As := [.int x]) (rest := []) ⟨hx, hb, hml, hown, hts⟩ (t_X2_needLiteral l D cI cJ tp h hn ow fi ma ro ha oa na sa he ob nb sb ic lc stp ap cnt len fo ff fk fr oA cA rA tA gA nA sA oB cB rB tB gB nB sB hl9 x hx9) (cwV 1 hts gX2_same_X2_needLiteral rfl rfl rfl (by decide +kernel) ⟨Nat.le_of_ble_eq_true rfl, Nat.le_of_ble_eq_true rfl⟩) (re_pv (ci := 2) (q0 := 0) hK hP hE rfl rfl) rfl hl.1 rfl (Nat.le_of_ble_eq_true rfl) dX2_same_2 ⟨Nat.le_of_ble_eq_true rfl, Nat.le_of_ble_eq_true rfl⟩ hno hlocks
set_option maxHeartbeats 4000000 in
set_option maxRecDepth 100000 in
/-- same: no such second literal -/
theorem t_X2_same2 (hl9 : l.stackTraces = false) (la : Nat) (x : Int32) (h1 : la < 2 * cnt) (hc : cnt ≤ 400) (hx9 : x < 0 ∨ nI (2 * cnt) ≤ x) : TH l yX2_same wsX2_same { frames := 7, cells := 1, slots := 6, locals := 103 } (re_P D [(cI, .int), (cJ, .long)] (xW h hn ow fi ma ro ha oa na sa he ob nb sb cI cJ ic lc stp ap cnt len fo ff fk fr oA cA rA tA gA nA sA oB cB rB tB gB nB sB) tp [.ref h, .int (nI la), .int x]) "java/lang/IndexOutOfBoundsException" := by
  refine vx_ofW (cc := cX2_same) (maxL := 3) (ret := (some .boolean)) (by decide) rfl ?_
  intro p e s m args below meth c s₁ B hml hno hv
  obtain ⟨rfl, ⟨hP, hK⟩, hE⟩ := hv
  have hx := B.exec
  have hb := B.bytes
  have hr := B.returns
  have hts := atoms_spec (ws := wsX2_same) B.pre
  have hown : s.vm.findClass RX2 = some m.cls := findClass_of_methodNamed B.named
  have hlocks := B.notSynchronized
  have hl := lv_entry ([.ref h, .int (nI la), .int x]) (n := 3) (Nat.le_of_ble_eq_true rfl)
  rw [lg_entry_eq]
  generalize (lg_sl ([.ref h, .int (nI la), .int x]) ++ List.replicate (3 - (lg_sl ([.ref h, .int (nI la), .int x])).length) Slot.unset).toArray = ls at hl ⊢
  have hl : lv_has ls 3 [(0, .ref h), (1, .int (nI la)), (2, .int x)] := hl
  have hP : va_P D vwCl [(h, .inr (2, [.ref hn, .ref ha, .ref he, .int (nI ic), .int (nI lc), .int (nI stp), .int ap])), (hn, .inr (1, [.int (nI cnt), .ref ow, .ref fi, .ref ma, .ref ro])), (ow, .inl (cI, 400, .inl fo)), (fi, .inl (cI, 400, .inl ff)), (ma, .inl (cJ, 400, .inr (.inl fk))), (ro, .inl (cJ, len, .inr (.inl fr))), (ha, .inr (0, [.ref oa, .ref na, .ref sa, .int (nI oA), .int (nI cA), .int (nI rA), .int (nI tA)])), (oa, .inl (cI, 16, .inl (fun j => nI (gA j)))), (na, .inl (cI, 4, .inl (fun j => nI (nA j)))), (sa, .inl (cI, 16, .inl sA)), (he, .inr (0, [.ref ob, .ref nb, .ref sb, .int (nI oB), .int (nI cB), .int (nI rB), .int (nI tB)])), (ob, .inl (cI, 16, .inl (fun j => nI (gB j)))), (nb, .inl (cI, 4, .inl (fun j => nI (nB j)))), (sb, .inl (cI, 16, .inl sB))] s.heap := hP
  have hin2 : ∀ w ∈ wsX20, w ∈ wsX2_same := by decide +kernel
  have kf12 := hts (.fieldLink RX2 12 "SweepEqual" "nodes" "LSweepEqual$Nodes;") (by decide +kernel)
  refine lv_aload_n hx hb dX2_same_0 rfl (lv_at hl 0 rfl) ?_
  refine lv_iload_n hx hb dX2_same_1 rfl (lv_at hl 1 rfl) ?_
  refine rv_V (As := [.int (nI la)]) (rest := []) ⟨hx, hb, hml, hown, hts⟩ (c_X2_needLiteral l D cI cJ tp h hn ow fi ma ro ha oa na sa he ob nb sb ic lc stp ap cnt len fo ff fk fr oA cA rA tA gA nA sA oB cB rB tB gB nB sB la h1 (by omega)) (cwV 1 hts gX2_same_X2_needLiteral rfl rfl rfl (by decide +kernel) ⟨Nat.le_of_ble_eq_true rfl, Nat.le_of_ble_eq_true rfl⟩) (re_pv (ci := 2) (q0 := 0) hK hP hE rfl rfl) rfl hl.1 rfl (Nat.le_of_ble_eq_true rfl) dX2_same_2 ⟨Nat.zero_le _, Nat.zero_le _⟩ ?_
  refine lv_aload_n hx hb dX2_same_5 rfl (lv_at hl 0 rfl) ?_
  refine lv_iload_n hx hb dX2_same_6 rfl (lv_at hl 2 rfl) ?_
  exact th_V (As := [.int x]) (rest := []) ⟨hx, hb, hml, hown, hts⟩ (t_X2_needLiteral l D cI cJ tp h hn ow fi ma ro ha oa na sa he ob nb sb ic lc stp ap cnt len fo ff fk fr oA cA rA tA gA nA sA oB cB rB tB gB nB sB hl9 x hx9) (cwV 1 hts gX2_same_X2_needLiteral rfl rfl rfl (by decide +kernel) ⟨Nat.le_of_ble_eq_true rfl, Nat.le_of_ble_eq_true rfl⟩) (re_pv (ci := 2) (q0 := 0) hK hP hE rfl rfl) rfl hl.1 rfl (Nat.le_of_ble_eq_true rfl) dX2_same_7 ⟨Nat.le_of_ble_eq_true rfl, Nat.le_of_ble_eq_true rfl⟩ hno hlocks
set_option maxHeartbeats 4000000 in
set_option maxRecDepth 100000 in
/-- first -/
theorem c_X2_first (lit : Nat) (h1 : lit < 2 * cnt) (hc : cnt ≤ 400) (hl1 : cnt * 64 ≤ len) (hl2 : len ≤ 25600) : Met l yX2_first wsX2_first { frames := 1, cells := 0, slots := 0, locals := 21 } (re_P D [(cI, .int), (cJ, .long)] (xW h hn ow fi ma ro ha oa na sa he ob nb sb cI cJ ic lc stp ap cnt len fo ff fk fr oA cA rA tA gA nA sA oB cB rB tB gB nB sB) tp [.ref h, .int (nI lit)]) (k2_QcV (.int (fs1 ff lit))) 0 0 (fun _ => False) := by
  refine Met.ofW (cc := cX2_first) (maxL := 2) (ret := (some .int)) (by decide) rfl ?_
  intro p e s m args below meth c s₁ B hml hv
  obtain ⟨rfl, ⟨hP, hK⟩, hE⟩ := hv
  have hx := B.exec
  have hb := B.bytes
  have hr := B.returns
  have hts := atoms_spec (ws := wsX2_first) B.pre
  have hown : s.vm.findClass RX2 = some m.cls := findClass_of_methodNamed B.named
  have hlocks := B.notSynchronized
  have hl := lv_entry ([.ref h, .int (nI lit)]) (n := 2) (Nat.le_of_ble_eq_true rfl)
  rw [lg_entry_eq]
  generalize (lg_sl ([.ref h, .int (nI lit)]) ++ List.replicate (2 - (lg_sl ([.ref h, .int (nI lit)])).length) Slot.unset).toArray = ls at hl ⊢
  have hl : lv_has ls 2 [(0, .ref h), (1, .int (nI lit))] := hl
  have hP : va_P D vwCl [(h, .inr (2, [.ref hn, .ref ha, .ref he, .int (nI ic), .int (nI lc), .int (nI stp), .int ap])), (hn, .inr (1, [.int (nI cnt), .ref ow, .ref fi, .ref ma, .ref ro])), (ow, .inl (cI, 400, .inl fo)), (fi, .inl (cI, 400, .inl ff)), (ma, .inl (cJ, 400, .inr (.inl fk))), (ro, .inl (cJ, len, .inr (.inl fr))), (ha, .inr (0, [.ref oa, .ref na, .ref sa, .int (nI oA), .int (nI cA), .int (nI rA), .int (nI tA)])), (oa, .inl (cI, 16, .inl (fun j => nI (gA j)))), (na, .inl (cI, 4, .inl (fun j => nI (nA j)))), (sa, .inl (cI, 16, .inl sA)), (he, .inr (0, [.ref ob, .ref nb, .ref sb, .int (nI oB), .int (nI cB), .int (nI rB), .int (nI tB)])), (ob, .inl (cI, 16, .inl (fun j => nI (gB j)))), (nb, .inl (cI, 4, .inl (fun j => nI (nB j)))), (sb, .inl (cI, 16, .inl sB))] s.heap := hP
  have hin2 : ∀ w ∈ wsX20, w ∈ wsX2_first := by decide +kernel
  have kf12 := hts (.fieldLink RX2 12 "SweepEqual" "nodes" "LSweepEqual$Nodes;") (by decide +kernel)
  refine lv_aload_n hx hb dX2_first_0 rfl (lv_at hl 0 rfl) ?_
  refine lv_iload_n hx hb dX2_first_1 rfl (lv_at hl 1 rfl) ?_
  refine rv_V (As := [.int (nI lit)]) (rest := []) ⟨hx, hb, hml, hown, hts⟩ (c_X2_needLiteral l D cI cJ tp h hn ow fi ma ro ha oa na sa he ob nb sb ic lc stp ap cnt len fo ff fk fr oA cA rA tA gA nA sA oB cB rB tB gB nB sB lit h1 (by omega)) (cwV 1 hts gX2_first_X2_needLiteral rfl rfl rfl (by decide +kernel) ⟨Nat.le_of_ble_eq_true rfl, Nat.le_of_ble_eq_true rfl⟩) (re_pv (ci := 2) (q0 := 0) hK hP hE rfl rfl) rfl hl.1 rfl (Nat.le_of_ble_eq_true rfl) dX2_first_2 ⟨Nat.zero_le _, Nat.zero_le _⟩ ?_
  refine lv_aload_n hx hb dX2_first_5 rfl (lv_at hl 0 rfl) ?_
  refine va_get (D := D) (ci := 2) (v := .ref hn) (C := RX2) (T := TX2) (N := 7) hx hb hts hin2 hown hK hP 0 rfl rfl 0 (by decide) kf12 (fun _ h9 => h9) rfl dX2_first_6 ?_
  refine lv_iload_n hx hb dX2_first_9 rfl (lv_at hl 1 rfl) ?_
  refine rd_V (As := [.int (nI lit)]) (rest := []) ⟨hx, hb, hml, hown, hts⟩ (c_X1_firstOf l D cI cJ hn ow fi ma ro cnt len fo ff fk fr lit (by omega)) (cwV 1 hts gX2_first_X1_firstOf rfl rfl rfl (by decide +kernel) ⟨Nat.le_of_ble_eq_true rfl, Nat.le_of_ble_eq_true rfl⟩) (rd_pv (ci := 1) (q0 := 0) hK (hP.sub (ws' := [(hn, .inr (1, [.int (nI cnt), .ref ow, .ref fi, .ref ma, .ref ro])), (ow, .inl (cI, 400, .inl fo)), (fi, .inl (cI, 400, .inl ff)), (ma, .inl (cJ, 400, .inr (.inl fk))), (ro, .inl (cJ, len, .inr (.inl fr)))]) [1, 2, 3, 4, 5] rfl) rfl rfl) rfl hl.1 rfl (Nat.le_of_ble_eq_true rfl) dX2_first_10 ⟨Nat.zero_le _, Nat.zero_le _⟩ ?_
  exact rd_i hx hb hr hlocks dX2_first_13 (rfl)
set_option maxHeartbeats 4000000 in
set_option maxRecDepth 100000 in
/-- first: no such literal -/
theorem t_X2_first1 (hl9 : l.stackTraces = false) (x : Int32) (hx9 : x < 0 ∨ nI (2 * cnt) ≤ x) : TH l yX2_first wsX2_first { frames := 7, cells := 1, slots := 6, locals := 103 } (re_P D [(cI, .int), (cJ, .long)] (xW h hn ow fi ma ro ha oa na sa he ob nb sb cI cJ ic lc stp ap cnt len fo ff fk fr oA cA rA tA gA nA sA oB cB rB tB gB nB sB) tp [.ref h, .int x]) "java/lang/IndexOutOfBoundsException" := by
  refine vx_ofW (cc := cX2_first) (maxL := 2) (ret := (some .int)) (by decide) rfl ?_
  intro p e s m args below meth c s₁ B hml hno hv
  obtain ⟨rfl, ⟨hP, hK⟩, hE⟩ := hv
  have hx := B.exec
  have hb := B.bytes
  have hr := B.returns
  have hts := atoms_spec (ws := wsX2_first) B.pre
  have hown : s.vm.findClass RX2 = some m.cls := findClass_of_methodNamed B.named
  have hlocks := B.notSynchronized
  have hl := lv_entry ([.ref h, .int x]) (n := 2) (Nat.le_of_ble_eq_true rfl)
  rw [lg_entry_eq]
  generalize (lg_sl ([.ref h, .int x]) ++ List.replicate (2 - (lg_sl ([.ref h, .int x])).length) Slot.unset).toArray = ls at hl ⊢
  have hl : lv_has ls 2 [(0, .ref h), (1, .int x)] := hl
  have hP : va_P D vwCl [(h, .inr (2, [.ref hn, .ref ha, .ref he, .int (nI ic), .int (nI lc), .int (nI stp), .int ap])), (hn, .inr (1, [.int (nI cnt), .ref ow, .ref fi, .ref ma, .ref ro])), (ow, .inl (cI, 400, .inl fo)), (fi, .inl (cI, 400, .inl ff)), (ma, .inl (cJ, 400, .inr (.inl fk))), (ro, .inl (cJ, len, .inr (.inl fr))), (ha, .inr (0, [.ref oa, .ref na, .ref sa, .int (nI oA), .int (nI cA), .int (nI rA), .int (nI tA)])), (oa, .inl (cI, 16, .inl (fun j => nI (gA j)))), (na, .inl (cI, 4, .inl (fun j => nI (nA j)))), (sa, .inl (cI, 16, .inl sA)), (he, .inr (0, [.ref ob, .ref nb, .ref sb, .int (nI oB), .int (nI cB), .int (nI rB), .int (nI tB)])), (ob, .inl (cI, 16, .inl (fun j => nI (gB j)))), (nb, .inl (cI, 4, .inl (fun j => nI (nB j)))), (sb, .inl (cI, 16, .inl sB))] s.heap := hP
  have hin2 : ∀ w ∈ wsX20, w ∈ wsX2_first := by decide +kernel
  have kf12 := hts (.fieldLink RX2 12 "SweepEqual" "nodes" "LSweepEqual$Nodes;") (by decide +kernel)
  refine lv_aload_n hx hb dX2_first_0 rfl (lv_at hl 0 rfl) ?_
  refine lv_iload_n hx hb dX2_first_1 rfl (lv_at hl 1 rfl) ?_
  exact th_V (As := [.int x]) (rest := []) ⟨hx, hb, hml, hown, hts⟩ (t_X2_needLiteral l D cI cJ tp h hn ow fi ma ro ha oa na sa he ob nb sb ic lc stp ap cnt len fo ff fk fr oA cA rA tA gA nA sA oB cB rB tB gB nB sB hl9 x hx9) (cwV 1 hts gX2_first_X2_needLiteral rfl rfl rfl (by decide +kernel) ⟨Nat.le_of_ble_eq_true rfl, Nat.le_of_ble_eq_true rfl⟩) (re_pv (ci := 2) (q0 := 0) hK hP hE rfl rfl) rfl hl.1 rfl (Nat.le_of_ble_eq_true rfl) dX2_first_2 ⟨Nat.le_of_ble_eq_true rfl, Nat.le_of_ble_eq_true rfl⟩ hno hlocks
set_option maxHeartbeats 4000000 in
set_option maxRecDepth 100000 in
/-- hangs -/
theorem c_X2_hangs (lit : Nat) (h1 : lit < 2 * cnt) (hc : cnt ≤ 400) (hl1 : cnt * 64 ≤ len) (hl2 : len ≤ 25600) : Met l yX2_hangs wsX2_hangs { frames := 4, cells := 0, slots := 0, locals := 97 } (re_P D [(cI, .int), (cJ, .long)] (xW h hn ow fi ma ro ha oa na sa he ob nb sb cI cJ ic lc stp ap cnt len fo ff fk fr oA cA rA tA gA nA sA oB cB rB tB gB nB sB) tp [.ref h, .int (nI lit)]) (k2_QcV (.int (spF fr lit 12))) 0 0 (fun _ => False) := by
  refine Met.ofW (cc := cX2_hangs) (maxL := 2) (ret := (some .int)) (by decide) rfl ?_
  intro p e s m args below meth c s₁ B hml hv
  obtain ⟨rfl, ⟨hP, hK⟩, hE⟩ := hv
  have hx := B.exec
  have hb := B.bytes
  have hr := B.returns
  have hts := atoms_spec (ws := wsX2_hangs) B.pre
  have hown : s.vm.findClass RX2 = some m.cls := findClass_of_methodNamed B.named
  have hlocks := B.notSynchronized
  have hl := lv_entry ([.ref h, .int (nI lit)]) (n := 2) (Nat.le_of_ble_eq_true rfl)
  rw [lg_entry_eq]
  generalize (lg_sl ([.ref h, .int (nI lit)]) ++ List.replicate (2 - (lg_sl ([.ref h, .int (nI lit)])).length) Slot.unset).toArray = ls at hl ⊢
  have hl : lv_has ls 2 [(0, .ref h), (1, .int (nI lit))] := hl
  have hP : va_P D vwCl [(h, .inr (2, [.ref hn, .ref ha, .ref he, .int (nI ic), .int (nI lc), .int (nI stp), .int ap])), (hn, .inr (1, [.int (nI cnt), .ref ow, .ref fi, .ref ma, .ref ro])), (ow, .inl (cI, 400, .inl fo)), (fi, .inl (cI, 400, .inl ff)), (ma, .inl (cJ, 400, .inr (.inl fk))), (ro, .inl (cJ, len, .inr (.inl fr))), (ha, .inr (0, [.ref oa, .ref na, .ref sa, .int (nI oA), .int (nI cA), .int (nI rA), .int (nI tA)])), (oa, .inl (cI, 16, .inl (fun j => nI (gA j)))), (na, .inl (cI, 4, .inl (fun j => nI (nA j)))), (sa, .inl (cI, 16, .inl sA)), (he, .inr (0, [.ref ob, .ref nb, .ref sb, .int (nI oB), .int (nI cB), .int (nI rB), .int (nI tB)])), (ob, .inl (cI, 16, .inl (fun j => nI (gB j)))), (nb, .inl (cI, 4, .inl (fun j => nI (nB j)))), (sb, .inl (cI, 16, .inl sB))] s.heap := hP
  have hin2 : ∀ w ∈ wsX20, w ∈ wsX2_hangs := by decide +kernel
  have kf12 := hts (.fieldLink RX2 12 "SweepEqual" "nodes" "LSweepEqual$Nodes;") (by decide +kernel)
  refine lv_aload_n hx hb dX2_hangs_0 rfl (lv_at hl 0 rfl) ?_
  refine lv_iload_n hx hb dX2_hangs_1 rfl (lv_at hl 1 rfl) ?_
  refine rv_V (As := [.int (nI lit)]) (rest := []) ⟨hx, hb, hml, hown, hts⟩ (c_X2_needLiteral l D cI cJ tp h hn ow fi ma ro ha oa na sa he ob nb sb ic lc stp ap cnt len fo ff fk fr oA cA rA tA gA nA sA oB cB rB tB gB nB sB lit h1 (by omega)) (cwV 1 hts gX2_hangs_X2_needLiteral rfl rfl rfl (by decide +kernel) ⟨Nat.le_of_ble_eq_true rfl, Nat.le_of_ble_eq_true rfl⟩) (re_pv (ci := 2) (q0 := 0) hK hP hE rfl rfl) rfl hl.1 rfl (Nat.le_of_ble_eq_true rfl) dX2_hangs_2 ⟨Nat.zero_le _, Nat.zero_le _⟩ ?_
  refine lv_aload_n hx hb dX2_hangs_5 rfl (lv_at hl 0 rfl) ?_
  refine va_get (D := D) (ci := 2) (v := .ref hn) (C := RX2) (T := TX2) (N := 7) hx hb hts hin2 hown hK hP 0 rfl rfl 0 (by decide) kf12 (fun _ h9 => h9) rfl dX2_hangs_6 ?_
  refine lv_iload_n hx hb dX2_hangs_9 rfl (lv_at hl 1 rfl) ?_
  refine rd_V (As := [.int (nI lit)]) (rest := []) ⟨hx, hb, hml, hown, hts⟩ (c_X1_supportOf l D cI cJ hn ow fi ma ro cnt len fo ff fk fr tp lit (by omega) hl2) (cwV 1 hts gX2_hangs_X1_supportOf rfl rfl rfl (by decide +kernel) ⟨Nat.le_of_ble_eq_true rfl, Nat.le_of_ble_eq_true rfl⟩) (re_pv (ci := 1) (q0 := 0) hK (hP.sub (ws' := [(hn, .inr (1, [.int (nI cnt), .ref ow, .ref fi, .ref ma, .ref ro])), (ow, .inl (cI, 400, .inl fo)), (fi, .inl (cI, 400, .inl ff)), (ma, .inl (cJ, 400, .inr (.inl fk))), (ro, .inl (cJ, len, .inr (.inl fr)))]) [1, 2, 3, 4, 5] rfl) hE rfl rfl) rfl hl.1 rfl (Nat.le_of_ble_eq_true rfl) dX2_hangs_10 ⟨Nat.zero_le _, Nat.zero_le _⟩ ?_
  exact rd_i hx hb hr hlocks dX2_hangs_13 (rfl)
set_option maxHeartbeats 4000000 in
set_option maxRecDepth 100000 in
/-- hangs: no such literal -/
theorem t_X2_hangs1 (hl9 : l.stackTraces = false) (x : Int32) (hx9 : x < 0 ∨ nI (2 * cnt) ≤ x) : TH l yX2_hangs wsX2_hangs { frames := 7, cells := 1, slots := 6, locals := 103 } (re_P D [(cI, .int), (cJ, .long)] (xW h hn ow fi ma ro ha oa na sa he ob nb sb cI cJ ic lc stp ap cnt len fo ff fk fr oA cA rA tA gA nA sA oB cB rB tB gB nB sB) tp [.ref h, .int x]) "java/lang/IndexOutOfBoundsException" := by
  refine vx_ofW (cc := cX2_hangs) (maxL := 2) (ret := (some .int)) (by decide) rfl ?_
  intro p e s m args below meth c s₁ B hml hno hv
  obtain ⟨rfl, ⟨hP, hK⟩, hE⟩ := hv
  have hx := B.exec
  have hb := B.bytes
  have hr := B.returns
  have hts := atoms_spec (ws := wsX2_hangs) B.pre
  have hown : s.vm.findClass RX2 = some m.cls := findClass_of_methodNamed B.named
  have hlocks := B.notSynchronized
  have hl := lv_entry ([.ref h, .int x]) (n := 2) (Nat.le_of_ble_eq_true rfl)
  rw [lg_entry_eq]
  generalize (lg_sl ([.ref h, .int x]) ++ List.replicate (2 - (lg_sl ([.ref h, .int x])).length) Slot.unset).toArray = ls at hl ⊢
  have hl : lv_has ls 2 [(0, .ref h), (1, .int x)] := hl
  have hP : va_P D vwCl [(h, .inr (2, [.ref hn, .ref ha, .ref he, .int (nI ic), .int (nI lc), .int (nI stp), .int ap])), (hn, .inr (1, [.int (nI cnt), .ref ow, .ref fi, .ref ma, .ref ro])), (ow, .inl (cI, 400, .inl fo)), (fi, .inl (cI, 400, .inl ff)), (ma, .inl (cJ, 400, .inr (.inl fk))), (ro, .inl (cJ, len, .inr (.inl fr))), (ha, .inr (0, [.ref oa, .ref na, .ref sa, .int (nI oA), .int (nI cA), .int (nI rA), .int (nI tA)])), (oa, .inl (cI, 16, .inl (fun j => nI (gA j)))), (na, .inl (cI, 4, .inl (fun j => nI (nA j)))), (sa, .inl (cI, 16, .inl sA)), (he, .inr (0, [.ref ob, .ref nb, .ref sb, .int (nI oB), .int (nI cB), .int (nI rB), .int (nI tB)])), (ob, .inl (cI, 16, .inl (fun j => nI (gB j)))), (nb, .inl (cI, 4, .inl (fun j => nI (nB j)))), (sb, .inl (cI, 16, .inl sB))] s.heap := hP
  have hin2 : ∀ w ∈ wsX20, w ∈ wsX2_hangs := by decide +kernel
  have kf12 := hts (.fieldLink RX2 12 "SweepEqual" "nodes" "LSweepEqual$Nodes;") (by decide +kernel)
  refine lv_aload_n hx hb dX2_hangs_0 rfl (lv_at hl 0 rfl) ?_
  refine lv_iload_n hx hb dX2_hangs_1 rfl (lv_at hl 1 rfl) ?_
  exact th_V (As := [.int x]) (rest := []) ⟨hx, hb, hml, hown, hts⟩ (t_X2_needLiteral l D cI cJ tp h hn ow fi ma ro ha oa na sa he ob nb sb ic lc stp ap cnt len fo ff fk fr oA cA rA tA gA nA sA oB cB rB tB gB nB sB hl9 x hx9) (cwV 1 hts gX2_hangs_X2_needLiteral rfl rfl rfl (by decide +kernel) ⟨Nat.le_of_ble_eq_true rfl, Nat.le_of_ble_eq_true rfl⟩) (re_pv (ci := 2) (q0 := 0) hK hP hE rfl rfl) rfl hl.1 rfl (Nat.le_of_ble_eq_true rfl) dX2_hangs_2 ⟨Nat.le_of_ble_eq_true rfl, Nat.le_of_ble_eq_true rfl⟩ hno hlocks
set_option maxHeartbeats 4000000 in
set_option maxRecDepth 100000 in
/-- value -/
theorem c_X2_value (lit : Nat) (av : Int32) (k : Nat) (hk : av &&& 4095 = nI k) (hk2 : k < 4096) (h1 : lit < 2 * cnt) (hc : cnt ≤ 400) (hl1 : cnt * 64 ≤ len) (hl2 : len ≤ 25600) : Met l yX2_value wsX2_value { frames := 2, cells := 0, slots := 0, locals := 47 } (re_P D [(cI, .int), (cJ, .long)] (xW h hn ow fi ma ro ha oa na sa he ob nb sb cI cJ ic lc stp ap cnt len fo ff fk fr oA cA rA tA gA nA sA oB cB rB tB gB nB sB) tp [.ref h, .int (nI lit), .int av]) (k2_QcV (.int (zI (bt fr lit k)))) 0 0 (fun _ => False) := by
  refine Met.ofW (cc := cX2_value) (maxL := 3) (ret := (some .int)) (by decide) rfl ?_
  intro p e s m args below meth c s₁ B hml hv
  obtain ⟨rfl, ⟨hP, hK⟩, hE⟩ := hv
  have hx := B.exec
  have hb := B.bytes
  have hr := B.returns
  have hts := atoms_spec (ws := wsX2_value) B.pre
  have hown : s.vm.findClass RX2 = some m.cls := findClass_of_methodNamed B.named
  have hlocks := B.notSynchronized
  have hl := lv_entry ([.ref h, .int (nI lit), .int av]) (n := 3) (Nat.le_of_ble_eq_true rfl)
  rw [lg_entry_eq]
  generalize (lg_sl ([.ref h, .int (nI lit), .int av]) ++ List.replicate (3 - (lg_sl ([.ref h, .int (nI lit), .int av])).length) Slot.unset).toArray = ls at hl ⊢
  have hl : lv_has ls 3 [(0, .ref h), (1, .int (nI lit)), (2, .int av)] := hl
  have hP : va_P D vwCl [(h, .inr (2, [.ref hn, .ref ha, .ref he, .int (nI ic), .int (nI lc), .int (nI stp), .int ap])), (hn, .inr (1, [.int (nI cnt), .ref ow, .ref fi, .ref ma, .ref ro])), (ow, .inl (cI, 400, .inl fo)), (fi, .inl (cI, 400, .inl ff)), (ma, .inl (cJ, 400, .inr (.inl fk))), (ro, .inl (cJ, len, .inr (.inl fr))), (ha, .inr (0, [.ref oa, .ref na, .ref sa, .int (nI oA), .int (nI cA), .int (nI rA), .int (nI tA)])), (oa, .inl (cI, 16, .inl (fun j => nI (gA j)))), (na, .inl (cI, 4, .inl (fun j => nI (nA j)))), (sa, .inl (cI, 16, .inl sA)), (he, .inr (0, [.ref ob, .ref nb, .ref sb, .int (nI oB), .int (nI cB), .int (nI rB), .int (nI tB)])), (ob, .inl (cI, 16, .inl (fun j => nI (gB j)))), (nb, .inl (cI, 4, .inl (fun j => nI (nB j)))), (sb, .inl (cI, 16, .inl sB))] s.heap := hP
  have hin2 : ∀ w ∈ wsX20, w ∈ wsX2_value := by decide +kernel
  have kf12 := hts (.fieldLink RX2 12 "SweepEqual" "nodes" "LSweepEqual$Nodes;") (by decide +kernel)
  refine lv_aload_n hx hb dX2_value_0 rfl (lv_at hl 0 rfl) ?_
  refine lv_iload_n hx hb dX2_value_1 rfl (lv_at hl 1 rfl) ?_
  refine rv_V (As := [.int (nI lit)]) (rest := []) ⟨hx, hb, hml, hown, hts⟩ (c_X2_needLiteral l D cI cJ tp h hn ow fi ma ro ha oa na sa he ob nb sb ic lc stp ap cnt len fo ff fk fr oA cA rA tA gA nA sA oB cB rB tB gB nB sB lit h1 (by omega)) (cwV 1 hts gX2_value_X2_needLiteral rfl rfl rfl (by decide +kernel) ⟨Nat.le_of_ble_eq_true rfl, Nat.le_of_ble_eq_true rfl⟩) (re_pv (ci := 2) (q0 := 0) hK hP hE rfl rfl) rfl hl.1 rfl (Nat.le_of_ble_eq_true rfl) dX2_value_2 ⟨Nat.zero_le _, Nat.zero_le _⟩ ?_
  refine lv_aload_n hx hb dX2_value_5 rfl (lv_at hl 0 rfl) ?_
  refine va_get (D := D) (ci := 2) (v := .ref hn) (C := RX2) (T := TX2) (N := 7) hx hb hts hin2 hown hK hP 0 rfl rfl 0 (by decide) kf12 (fun _ h9 => h9) rfl dX2_value_6 ?_
  refine lv_iload_n hx hb dX2_value_9 rfl (lv_at hl 1 rfl) ?_
  refine lv_iload_n hx hb dX2_value_10 rfl (lv_at hl 2 rfl) ?_
  refine rd_V (As := [.int (nI lit), .int av]) (rest := []) ⟨hx, hb, hml, hown, hts⟩ (c_X1_valueIn l D cI cJ hn ow fi ma ro cnt len fo ff fk fr lit av k hk hk2 (by omega) hl2) (cwV 2 hts gX2_value_X1_valueIn rfl rfl rfl (by decide +kernel) ⟨Nat.le_of_ble_eq_true rfl, Nat.le_of_ble_eq_true rfl⟩) (rd_pv (ci := 1) (q0 := 0) hK (hP.sub (ws' := [(hn, .inr (1, [.int (nI cnt), .ref ow, .ref fi, .ref ma, .ref ro])), (ow, .inl (cI, 400, .inl fo)), (fi, .inl (cI, 400, .inl ff)), (ma, .inl (cJ, 400, .inr (.inl fk))), (ro, .inl (cJ, len, .inr (.inl fr)))]) [1, 2, 3, 4, 5] rfl) rfl rfl) rfl hl.1 rfl (Nat.le_of_ble_eq_true rfl) dX2_value_11 ⟨Nat.zero_le _, Nat.zero_le _⟩ ?_
  exact rd_i hx hb hr hlocks dX2_value_14 (rfl)
set_option maxHeartbeats 4000000 in
set_option maxRecDepth 100000 in
/-- value: no such literal -/
theorem t_X2_value1 (hl9 : l.stackTraces = false) (x y : Int32) (hx9 : x < 0 ∨ nI (2 * cnt) ≤ x) : TH l yX2_value wsX2_value { frames := 7, cells := 1, slots := 6, locals := 103 } (re_P D [(cI, .int), (cJ, .long)] (xW h hn ow fi ma ro ha oa na sa he ob nb sb cI cJ ic lc stp ap cnt len fo ff fk fr oA cA rA tA gA nA sA oB cB rB tB gB nB sB) tp [.ref h, .int x, .int y]) "java/lang/IndexOutOfBoundsException" := by
  refine vx_ofW (cc := cX2_value) (maxL := 3) (ret := (some .int)) (by decide) rfl ?_
  intro p e s m args below meth c s₁ B hml hno hv
  obtain ⟨rfl, ⟨hP, hK⟩, hE⟩ := hv
  have hx := B.exec
  have hb := B.bytes
  have hr := B.returns
  have hts := atoms_spec (ws := wsX2_value) B.pre
  have hown : s.vm.findClass RX2 = some m.cls := findClass_of_methodNamed B.named
  have hlocks := B.notSynchronized
  have hl := lv_entry ([.ref h, .int x, .int y]) (n := 3) (Nat.le_of_ble_eq_true rfl)
  rw [lg_entry_eq]
  generalize (lg_sl ([.ref h, .int x, .int y]) ++ List.replicate (3 - (lg_sl ([.ref h, .int x, .int y])).length) Slot.unset).toArray = ls at hl ⊢
  have hl : lv_has ls 3 [(0, .ref h), (1, .int x), (2, .int y)] := hl
  have hP : va_P D vwCl [(h, .inr (2, [.ref hn, .ref ha, .ref he, .int (nI ic), .int (nI lc), .int (nI stp), .int ap])), (hn, .inr (1, [.int (nI cnt), .ref ow, .ref fi, .ref ma, .ref ro])), (ow, .inl (cI, 400, .inl fo)), (fi, .inl (cI, 400, .inl ff)), (ma, .inl (cJ, 400, .inr (.inl fk))), (ro, .inl (cJ, len, .inr (.inl fr))), (ha, .inr (0, [.ref oa, .ref na, .ref sa, .int (nI oA), .int (nI cA), .int (nI rA), .int (nI tA)])), (oa, .inl (cI, 16, .inl (fun j => nI (gA j)))), (na, .inl (cI, 4, .inl (fun j => nI (nA j)))), (sa, .inl (cI, 16, .inl sA)), (he, .inr (0, [.ref ob, .ref nb, .ref sb, .int (nI oB), .int (nI cB), .int (nI rB), .int (nI tB)])), (ob, .inl (cI, 16, .inl (fun j => nI (gB j)))), (nb, .inl (cI, 4, .inl (fun j => nI (nB j)))), (sb, .inl (cI, 16, .inl sB))] s.heap := hP
  have hin2 : ∀ w ∈ wsX20, w ∈ wsX2_value := by decide +kernel
  have kf12 := hts (.fieldLink RX2 12 "SweepEqual" "nodes" "LSweepEqual$Nodes;") (by decide +kernel)
  refine lv_aload_n hx hb dX2_value_0 rfl (lv_at hl 0 rfl) ?_
  refine lv_iload_n hx hb dX2_value_1 rfl (lv_at hl 1 rfl) ?_
  exact th_V (As := [.int x]) (rest := []) ⟨hx, hb, hml, hown, hts⟩ (t_X2_needLiteral l D cI cJ tp h hn ow fi ma ro ha oa na sa he ob nb sb ic lc stp ap cnt len fo ff fk fr oA cA rA tA gA nA sA oB cB rB tB gB nB sB hl9 x hx9) (cwV 1 hts gX2_value_X2_needLiteral rfl rfl rfl (by decide +kernel) ⟨Nat.le_of_ble_eq_true rfl, Nat.le_of_ble_eq_true rfl⟩) (re_pv (ci := 2) (q0 := 0) hK hP hE rfl rfl) rfl hl.1 rfl (Nat.le_of_ble_eq_true rfl) dX2_value_2 ⟨Nat.le_of_ble_eq_true rfl, Nat.le_of_ble_eq_true rfl⟩ hno hlocks
set_option maxHeartbeats 4000000 in
set_option maxRecDepth 100000 in
/-- ones -/
theorem c_X2_ones (lit : Nat) (hic : ic ≤ 8) (hlc : lc ≤ 4) (h1 : lit < 2 * cnt) (hc : cnt ≤ 400) (hl1 : cnt * 64 ≤ len) (hl2 : len ≤ 25600) : Met l yX2_ones wsX2_ones { frames := 2, cells := 0, slots := 0, locals := 47 } (re_P D [(cI, .int), (cJ, .long)] (xW h hn ow fi ma ro ha oa na sa he ob nb sb cI cJ ic lc stp ap cnt len fo ff fk fr oA cA rA tA gA nA sA oB cB rB tB gB nB sB) tp [.ref h, .int (nI lit)]) (k2_QcV (.int (nI (onF fr lit 64 / 2 ^ (12 - ic - lc))))) 0 0 (fun _ => False) := by
  refine Met.ofW (cc := cX2_ones) (maxL := 2) (ret := (some .int)) (by decide) rfl ?_
  intro p e s m args below meth c s₁ B hml hv
  obtain ⟨rfl, ⟨hP, hK⟩, hE⟩ := hv
  have hx := B.exec
  have hb := B.bytes
  have hr := B.returns
  have hts := atoms_spec (ws := wsX2_ones) B.pre
  have hown : s.vm.findClass RX2 = some m.cls := findClass_of_methodNamed B.named
  have hlocks := B.notSynchronized
  have hl := lv_entry ([.ref h, .int (nI lit)]) (n := 2) (Nat.le_of_ble_eq_true rfl)
  rw [lg_entry_eq]
  generalize (lg_sl ([.ref h, .int (nI lit)]) ++ List.replicate (2 - (lg_sl ([.ref h, .int (nI lit)])).length) Slot.unset).toArray = ls at hl ⊢
  have hl : lv_has ls 2 [(0, .ref h), (1, .int (nI lit))] := hl
  have hP : va_P D vwCl [(h, .inr (2, [.ref hn, .ref ha, .ref he, .int (nI ic), .int (nI lc), .int (nI stp), .int ap])), (hn, .inr (1, [.int (nI cnt), .ref ow, .ref fi, .ref ma, .ref ro])), (ow, .inl (cI, 400, .inl fo)), (fi, .inl (cI, 400, .inl ff)), (ma, .inl (cJ, 400, .inr (.inl fk))), (ro, .inl (cJ, len, .inr (.inl fr))), (ha, .inr (0, [.ref oa, .ref na, .ref sa, .int (nI oA), .int (nI cA), .int (nI rA), .int (nI tA)])), (oa, .inl (cI, 16, .inl (fun j => nI (gA j)))), (na, .inl (cI, 4, .inl (fun j => nI (nA j)))), (sa, .inl (cI, 16, .inl sA)), (he, .inr (0, [.ref ob, .ref nb, .ref sb, .int (nI oB), .int (nI cB), .int (nI rB), .int (nI tB)])), (ob, .inl (cI, 16, .inl (fun j => nI (gB j)))), (nb, .inl (cI, 4, .inl (fun j => nI (nB j)))), (sb, .inl (cI, 16, .inl sB))] s.heap := hP
  have hin2 : ∀ w ∈ wsX20, w ∈ wsX2_ones := by decide +kernel
  have kf12 := hts (.fieldLink RX2 12 "SweepEqual" "nodes" "LSweepEqual$Nodes;") (by decide +kernel)
  have kf30 := hts (.fieldLink RX2 30 "SweepEqual" "inputCount" "I") (by decide +kernel)
  have kf47 := hts (.fieldLink RX2 47 "SweepEqual" "latchCount" "I") (by decide +kernel)
  refine lv_aload_n hx hb dX2_ones_0 rfl (lv_at hl 0 rfl) ?_
  refine lv_iload_n hx hb dX2_ones_1 rfl (lv_at hl 1 rfl) ?_
  refine rv_V (As := [.int (nI lit)]) (rest := []) ⟨hx, hb, hml, hown, hts⟩ (c_X2_needLiteral l D cI cJ tp h hn ow fi ma ro ha oa na sa he ob nb sb ic lc stp ap cnt len fo ff fk fr oA cA rA tA gA nA sA oB cB rB tB gB nB sB lit h1 (by omega)) (cwV 1 hts gX2_ones_X2_needLiteral rfl rfl rfl (by decide +kernel) ⟨Nat.le_of_ble_eq_true rfl, Nat.le_of_ble_eq_true rfl⟩) (re_pv (ci := 2) (q0 := 0) hK hP hE rfl rfl) rfl hl.1 rfl (Nat.le_of_ble_eq_true rfl) dX2_ones_2 ⟨Nat.zero_le _, Nat.zero_le _⟩ ?_
  refine lv_aload_n hx hb dX2_ones_5 rfl (lv_at hl 0 rfl) ?_
  refine va_get (D := D) (ci := 2) (v := .ref hn) (C := RX2) (T := TX2) (N := 7) hx hb hts hin2 hown hK hP 0 rfl rfl 0 (by decide) kf12 (fun _ h9 => h9) rfl dX2_ones_6 ?_
  refine lv_iload_n hx hb dX2_ones_9 rfl (lv_at hl 1 rfl) ?_
  refine rd_V (As := [.int (nI lit)]) (rest := []) ⟨hx, hb, hml, hown, hts⟩ (c_X1_countOnes l D cI cJ hn ow fi ma ro cnt len fo ff fk fr lit (by omega) hl2) (cwV 1 hts gX2_ones_X1_countOnes rfl rfl rfl (by decide +kernel) ⟨Nat.le_of_ble_eq_true rfl, Nat.le_of_ble_eq_true rfl⟩) (rd_pv (ci := 1) (q0 := 0) hK (hP.sub (ws' := [(hn, .inr (1, [.int (nI cnt), .ref ow, .ref fi, .ref ma, .ref ro])), (ow, .inl (cI, 400, .inl fo)), (fi, .inl (cI, 400, .inl ff)), (ma, .inl (cJ, 400, .inr (.inl fk))), (ro, .inl (cJ, len, .inr (.inl fr)))]) [1, 2, 3, 4, 5] rfl) rfl rfl) rfl hl.1 rfl (Nat.le_of_ble_eq_true rfl) dX2_ones_10 ⟨Nat.zero_le _, Nat.zero_le _⟩ ?_
  have hon := onF_le fr lit 64
  refine lv_bipush (v := nI 12) hx hb dX2_ones_13 (by decide) ?_
  refine lv_aload_n hx hb dX2_ones_15 rfl (lv_at hl 0 rfl) ?_
  refine va_get (D := D) (ci := 2) (v := .int (nI ic)) (C := RX2) (T := TX2) (N := 7) hx hb hts hin2 hown hK hP 0 rfl rfl 3 (by decide) kf30 (fun _ h9 => h9) rfl dX2_ones_16 ?_
  refine lv_isub hx hb dX2_ones_19 ?_
  refine tp_i (show (nI 12) - (nI ic) = nI (12 - ic) from pk_sub (by omega)) ?_
  refine lv_aload_n hx hb dX2_ones_20 rfl (lv_at hl 0 rfl) ?_
  refine va_get (D := D) (ci := 2) (v := .int (nI lc)) (C := RX2) (T := TX2) (N := 7) hx hb hts hin2 hown hK hP 0 rfl rfl 4 (by decide) kf47 (fun _ h9 => h9) rfl dX2_ones_21 ?_
  refine lv_isub hx hb dX2_ones_24 ?_
  refine tp_i (show (nI (12 - ic)) - (nI lc) = nI (12 - ic - lc) from pk_sub (by omega)) ?_
  refine lv_ishr hx hb dX2_ones_25 ?_
  refine tp_i (show (nI (onF fr lit 64)) >>> ((nI (12 - ic - lc)) &&& 31) = nI (onF fr lit 64 / 2 ^ (12 - ic - lc)) from n_shr (by omega) (by omega)) ?_
  exact rd_i hx hb hr hlocks dX2_ones_26 (rfl)
set_option maxHeartbeats 4000000 in
set_option maxRecDepth 100000 in
/-- ones: no such literal -/
theorem t_X2_ones1 (hl9 : l.stackTraces = false) (x : Int32) (hx9 : x < 0 ∨ nI (2 * cnt) ≤ x) : TH l yX2_ones wsX2_ones { frames := 7, cells := 1, slots := 6, locals := 103 } (re_P D [(cI, .int), (cJ, .long)] (xW h hn ow fi ma ro ha oa na sa he ob nb sb cI cJ ic lc stp ap cnt len fo ff fk fr oA cA rA tA gA nA sA oB cB rB tB gB nB sB) tp [.ref h, .int x]) "java/lang/IndexOutOfBoundsException" := by
  refine vx_ofW (cc := cX2_ones) (maxL := 2) (ret := (some .int)) (by decide) rfl ?_
  intro p e s m args below meth c s₁ B hml hno hv
  obtain ⟨rfl, ⟨hP, hK⟩, hE⟩ := hv
  have hx := B.exec
  have hb := B.bytes
  have hr := B.returns
  have hts := atoms_spec (ws := wsX2_ones) B.pre
  have hown : s.vm.findClass RX2 = some m.cls := findClass_of_methodNamed B.named
  have hlocks := B.notSynchronized
  have hl := lv_entry ([.ref h, .int x]) (n := 2) (Nat.le_of_ble_eq_true rfl)
  rw [lg_entry_eq]
  generalize (lg_sl ([.ref h, .int x]) ++ List.replicate (2 - (lg_sl ([.ref h, .int x])).length) Slot.unset).toArray = ls at hl ⊢
  have hl : lv_has ls 2 [(0, .ref h), (1, .int x)] := hl
  have hP : va_P D vwCl [(h, .inr (2, [.ref hn, .ref ha, .ref he, .int (nI ic), .int (nI lc), .int (nI stp), .int ap])), (hn, .inr (1, [.int (nI cnt), .ref ow, .ref fi, .ref ma, .ref ro])), (ow, .inl (cI, 400, .inl fo)), (fi, .inl (cI, 400, .inl ff)), (ma, .inl (cJ, 400, .inr (.inl fk))), (ro, .inl (cJ, len, .inr (.inl fr))), (ha, .inr (0, [.ref oa, .ref na, .ref sa, .int (nI oA), .int (nI cA), .int (nI rA), .int (nI tA)])), (oa, .inl (cI, 16, .inl (fun j => nI (gA j)))), (na, .inl (cI, 4, .inl (fun j => nI (nA j)))), (sa, .inl (cI, 16, .inl sA)), (he, .inr (0, [.ref ob, .ref nb, .ref sb, .int (nI oB), .int (nI cB), .int (nI rB), .int (nI tB)])), (ob, .inl (cI, 16, .inl (fun j => nI (gB j)))), (nb, .inl (cI, 4, .inl (fun j => nI (nB j)))), (sb, .inl (cI, 16, .inl sB))] s.heap := hP
  have hin2 : ∀ w ∈ wsX20, w ∈ wsX2_ones := by decide +kernel
  have kf12 := hts (.fieldLink RX2 12 "SweepEqual" "nodes" "LSweepEqual$Nodes;") (by decide +kernel)
  have kf30 := hts (.fieldLink RX2 30 "SweepEqual" "inputCount" "I") (by decide +kernel)
  have kf47 := hts (.fieldLink RX2 47 "SweepEqual" "latchCount" "I") (by decide +kernel)
  refine lv_aload_n hx hb dX2_ones_0 rfl (lv_at hl 0 rfl) ?_
  refine lv_iload_n hx hb dX2_ones_1 rfl (lv_at hl 1 rfl) ?_
  exact th_V (As := [.int x]) (rest := []) ⟨hx, hb, hml, hown, hts⟩ (t_X2_needLiteral l D cI cJ tp h hn ow fi ma ro ha oa na sa he ob nb sb ic lc stp ap cnt len fo ff fk fr oA cA rA tA gA nA sA oB cB rB tB gB nB sB hl9 x hx9) (cwV 1 hts gX2_ones_X2_needLiteral rfl rfl rfl (by decide +kernel) ⟨Nat.le_of_ble_eq_true rfl, Nat.le_of_ble_eq_true rfl⟩) (re_pv (ci := 2) (q0 := 0) hK hP hE rfl rfl) rfl hl.1 rfl (Nat.le_of_ble_eq_true rfl) dX2_ones_2 ⟨Nat.le_of_ble_eq_true rfl, Nat.le_of_ble_eq_true rfl⟩ hno hlocks
set_option maxHeartbeats 4000000 in
set_option maxRecDepth 100000 in
/-- classes -/
theorem c_X2_classes (hc : cnt ≤ 400) : Met l yX2_classes wsX2_classes { frames := 2, cells := 0, slots := 0, locals := 43 } (re_P D [(cI, .int), (cJ, .long)] (xW h hn ow fi ma ro ha oa na sa he ob nb sb cI cJ ic lc stp ap cnt len fo ff fk fr oA cA rA tA gA nA sA oB cB rB tB gB nB sB) tp [.ref h]) (k2_QcV (.int (nI (cCls ff cnt)))) 0 0 (fun _ => False) := by
  refine Met.ofW (cc := cX2_classes) (maxL := 1) (ret := (some .int)) (by decide) rfl ?_
  intro p e s m args below meth c s₁ B hml hv
  obtain ⟨rfl, ⟨hP, hK⟩, hE⟩ := hv
  have hx := B.exec
  have hb := B.bytes
  have hr := B.returns
  have hts := atoms_spec (ws := wsX2_classes) B.pre
  have hown : s.vm.findClass RX2 = some m.cls := findClass_of_methodNamed B.named
  have hlocks := B.notSynchronized
  have hl := lv_entry ([.ref h]) (n := 1) (Nat.le_of_ble_eq_true rfl)
  rw [lg_entry_eq]
  generalize (lg_sl ([.ref h]) ++ List.replicate (1 - (lg_sl ([.ref h])).length) Slot.unset).toArray = ls at hl ⊢
  have hl : lv_has ls 1 [(0, .ref h)] := hl
  have hP : va_P D vwCl [(h, .inr (2, [.ref hn, .ref ha, .ref he, .int (nI ic), .int (nI lc), .int (nI stp), .int ap])), (hn, .inr (1, [.int (nI cnt), .ref ow, .ref fi, .ref ma, .ref ro])), (ow, .inl (cI, 400, .inl fo)), (fi, .inl (cI, 400, .inl ff)), (ma, .inl (cJ, 400, .inr (.inl fk))), (ro, .inl (cJ, len, .inr (.inl fr))), (ha, .inr (0, [.ref oa, .ref na, .ref sa, .int (nI oA), .int (nI cA), .int (nI rA), .int (nI tA)])), (oa, .inl (cI, 16, .inl (fun j => nI (gA j)))), (na, .inl (cI, 4, .inl (fun j => nI (nA j)))), (sa, .inl (cI, 16, .inl sA)), (he, .inr (0, [.ref ob, .ref nb, .ref sb, .int (nI oB), .int (nI cB), .int (nI rB), .int (nI tB)])), (ob, .inl (cI, 16, .inl (fun j => nI (gB j)))), (nb, .inl (cI, 4, .inl (fun j => nI (nB j)))), (sb, .inl (cI, 16, .inl sB))] s.heap := hP
  have hin2 : ∀ w ∈ wsX20, w ∈ wsX2_classes := by decide +kernel
  have kf12 := hts (.fieldLink RX2 12 "SweepEqual" "nodes" "LSweepEqual$Nodes;") (by decide +kernel)
  refine lv_aload_n hx hb dX2_classes_0 rfl (lv_at hl 0 rfl) ?_
  refine va_get (D := D) (ci := 2) (v := .ref hn) (C := RX2) (T := TX2) (N := 7) hx hb hts hin2 hown hK hP 0 rfl rfl 0 (by decide) kf12 (fun _ h9 => h9) rfl dX2_classes_1 ?_
  refine rd_V (As := []) (rest := []) ⟨hx, hb, hml, hown, hts⟩ (c_X1_countClasses l D cI cJ hn ow fi ma ro cnt len fo ff fk fr hc) (cwV 0 hts gX2_classes_X1_countClasses rfl rfl rfl (by decide +kernel) ⟨Nat.le_of_ble_eq_true rfl, Nat.le_of_ble_eq_true rfl⟩) (rd_pv (ci := 1) (q0 := 0) hK (hP.sub (ws' := [(hn, .inr (1, [.int (nI cnt), .ref ow, .ref fi, .ref ma, .ref ro])), (ow, .inl (cI, 400, .inl fo)), (fi, .inl (cI, 400, .inl ff)), (ma, .inl (cJ, 400, .inr (.inl fk))), (ro, .inl (cJ, len, .inr (.inl fr)))]) [1, 2, 3, 4, 5] rfl) rfl rfl) rfl hl.1 rfl (Nat.le_of_ble_eq_true rfl) dX2_classes_4 ⟨Nat.zero_le _, Nat.zero_le _⟩ ?_
  exact rd_i hx hb hr hlocks dX2_classes_7 (rfl)
set_option maxHeartbeats 4000000 in
set_option maxRecDepth 100000 in
/-- merged -/
theorem c_X2_merged (sd : Int32) (hs : sd = 0 ∨ sd = 1) (hc : cnt ≤ 400) : Met l yX2_merged wsX2_merged { frames := 2, cells := 0, slots := 0, locals := 44 } (re_P D [(cI, .int), (cJ, .long)] (xW h hn ow fi ma ro ha oa na sa he ob nb sb cI cJ ic lc stp ap cnt len fo ff fk fr oA cA rA tA gA nA sA oB cB rB tB gB nB sB) tp [.ref h, .int sd]) (k2_QcV (.int (nI (cMer fo ff sd cnt)))) 0 0 (fun _ => False) := by
  refine Met.ofW (cc := cX2_merged) (maxL := 2) (ret := (some .int)) (by decide) rfl ?_
  intro p e s m args below meth c s₁ B hml hv
  obtain ⟨rfl, ⟨hP, hK⟩, hE⟩ := hv
  have hx := B.exec
  have hb := B.bytes
  have hr := B.returns
  have hts := atoms_spec (ws := wsX2_merged) B.pre
  have hown : s.vm.findClass RX2 = some m.cls := findClass_of_methodNamed B.named
  have hlocks := B.notSynchronized
  have hl := lv_entry ([.ref h, .int sd]) (n := 2) (Nat.le_of_ble_eq_true rfl)
  rw [lg_entry_eq]
  generalize (lg_sl ([.ref h, .int sd]) ++ List.replicate (2 - (lg_sl ([.ref h, .int sd])).length) Slot.unset).toArray = ls at hl ⊢
  have hl : lv_has ls 2 [(0, .ref h), (1, .int sd)] := hl
  have hP : va_P D vwCl [(h, .inr (2, [.ref hn, .ref ha, .ref he, .int (nI ic), .int (nI lc), .int (nI stp), .int ap])), (hn, .inr (1, [.int (nI cnt), .ref ow, .ref fi, .ref ma, .ref ro])), (ow, .inl (cI, 400, .inl fo)), (fi, .inl (cI, 400, .inl ff)), (ma, .inl (cJ, 400, .inr (.inl fk))), (ro, .inl (cJ, len, .inr (.inl fr))), (ha, .inr (0, [.ref oa, .ref na, .ref sa, .int (nI oA), .int (nI cA), .int (nI rA), .int (nI tA)])), (oa, .inl (cI, 16, .inl (fun j => nI (gA j)))), (na, .inl (cI, 4, .inl (fun j => nI (nA j)))), (sa, .inl (cI, 16, .inl sA)), (he, .inr (0, [.ref ob, .ref nb, .ref sb, .int (nI oB), .int (nI cB), .int (nI rB), .int (nI tB)])), (ob, .inl (cI, 16, .inl (fun j => nI (gB j)))), (nb, .inl (cI, 4, .inl (fun j => nI (nB j)))), (sb, .inl (cI, 16, .inl sB))] s.heap := hP
  have hin2 : ∀ w ∈ wsX20, w ∈ wsX2_merged := by decide +kernel
  have kf12 := hts (.fieldLink RX2 12 "SweepEqual" "nodes" "LSweepEqual$Nodes;") (by decide +kernel)
  refine lv_aload_n hx hb dX2_merged_0 rfl (lv_at hl 0 rfl) ?_
  refine lv_iload_n hx hb dX2_merged_1 rfl (lv_at hl 1 rfl) ?_
  refine rv_V (As := [.int sd]) (rest := []) ⟨hx, hb, hml, hown, hts⟩ (c_X2_needSide l D cI cJ tp h hn ow fi ma ro ha oa na sa he ob nb sb ic lc stp ap cnt len fo ff fk fr oA cA rA tA gA nA sA oB cB rB tB gB nB sB sd hs) (cwV 1 hts gX2_merged_X2_needSide rfl rfl rfl (by decide +kernel) ⟨Nat.le_of_ble_eq_true rfl, Nat.le_of_ble_eq_true rfl⟩) (re_pv (ci := 2) (q0 := 0) hK hP hE rfl rfl) rfl hl.1 rfl (Nat.le_of_ble_eq_true rfl) dX2_merged_2 ⟨Nat.zero_le _, Nat.zero_le _⟩ ?_
  refine lv_aload_n hx hb dX2_merged_5 rfl (lv_at hl 0 rfl) ?_
  refine va_get (D := D) (ci := 2) (v := .ref hn) (C := RX2) (T := TX2) (N := 7) hx hb hts hin2 hown hK hP 0 rfl rfl 0 (by decide) kf12 (fun _ h9 => h9) rfl dX2_merged_6 ?_
  refine lv_iload_n hx hb dX2_merged_9 rfl (lv_at hl 1 rfl) ?_
  refine rd_V (As := [.int sd]) (rest := []) ⟨hx, hb, hml, hown, hts⟩ (c_X1_countMerged l D cI cJ hn ow fi ma ro cnt len fo ff fk fr sd hc) (cwV 1 hts gX2_merged_X1_countMerged rfl rfl rfl (by decide +kernel) ⟨Nat.le_of_ble_eq_true rfl, Nat.le_of_ble_eq_true rfl⟩) (rd_pv (ci := 1) (q0 := 0) hK (hP.sub (ws' := [(hn, .inr (1, [.int (nI cnt), .ref ow, .ref fi, .ref ma, .ref ro])), (ow, .inl (cI, 400, .inl fo)), (fi, .inl (cI, 400, .inl ff)), (ma, .inl (cJ, 400, .inr (.inl fk))), (ro, .inl (cJ, len, .inr (.inl fr)))]) [1, 2, 3, 4, 5] rfl) rfl rfl) rfl hl.1 rfl (Nat.le_of_ble_eq_true rfl) dX2_merged_10 ⟨Nat.zero_le _, Nat.zero_le _⟩ ?_
  exact rd_i hx hb hr hlocks dX2_merged_13 (rfl)
set_option maxHeartbeats 4000000 in
set_option maxRecDepth 100000 in
/-- merged: no such side -/
theorem t_X2_merged1 (hl9 : l.stackTraces = false) (sd : Int32) (hs : ¬ (sd = 0 ∨ sd = 1)) : TH l yX2_merged wsX2_merged { frames := 7, cells := 1, slots := 6, locals := 103 } (re_P D [(cI, .int), (cJ, .long)] (xW h hn ow fi ma ro ha oa na sa he ob nb sb cI cJ ic lc stp ap cnt len fo ff fk fr oA cA rA tA gA nA sA oB cB rB tB gB nB sB) tp [.ref h, .int sd]) "java/lang/IndexOutOfBoundsException" := by
  refine vx_ofW (cc := cX2_merged) (maxL := 2) (ret := (some .int)) (by decide) rfl ?_
  intro p e s m args below meth c s₁ B hml hno hv
  obtain ⟨rfl, ⟨hP, hK⟩, hE⟩ := hv
  have hx := B.exec
  have hb := B.bytes
  have hr := B.returns
  have hts := atoms_spec (ws := wsX2_merged) B.pre
  have hown : s.vm.findClass RX2 = some m.cls := findClass_of_methodNamed B.named
  have hlocks := B.notSynchronized
  have hl := lv_entry ([.ref h, .int sd]) (n := 2) (Nat.le_of_ble_eq_true rfl)
  rw [lg_entry_eq]
  generalize (lg_sl ([.ref h, .int sd]) ++ List.replicate (2 - (lg_sl ([.ref h, .int sd])).length) Slot.unset).toArray = ls at hl ⊢
  have hl : lv_has ls 2 [(0, .ref h), (1, .int sd)] := hl
  have hP : va_P D vwCl [(h, .inr (2, [.ref hn, .ref ha, .ref he, .int (nI ic), .int (nI lc), .int (nI stp), .int ap])), (hn, .inr (1, [.int (nI cnt), .ref ow, .ref fi, .ref ma, .ref ro])), (ow, .inl (cI, 400, .inl fo)), (fi, .inl (cI, 400, .inl ff)), (ma, .inl (cJ, 400, .inr (.inl fk))), (ro, .inl (cJ, len, .inr (.inl fr))), (ha, .inr (0, [.ref oa, .ref na, .ref sa, .int (nI oA), .int (nI cA), .int (nI rA), .int (nI tA)])), (oa, .inl (cI, 16, .inl (fun j => nI (gA j)))), (na, .inl (cI, 4, .inl (fun j => nI (nA j)))), (sa, .inl (cI, 16, .inl sA)), (he, .inr (0, [.ref ob, .ref nb, .ref sb, .int (nI oB), .int (nI cB), .int (nI rB), .int (nI tB)])), (ob, .inl (cI, 16, .inl (fun j => nI (gB j)))), (nb, .inl (cI, 4, .inl (fun j => nI (nB j)))), (sb, .inl (cI, 16, .inl sB))] s.heap := hP
  have hin2 : ∀ w ∈ wsX20, w ∈ wsX2_merged := by decide +kernel
  have kf12 := hts (.fieldLink RX2 12 "SweepEqual" "nodes" "LSweepEqual$Nodes;") (by decide +kernel)
  refine lv_aload_n hx hb dX2_merged_0 rfl (lv_at hl 0 rfl) ?_
  refine lv_iload_n hx hb dX2_merged_1 rfl (lv_at hl 1 rfl) ?_
  exact th_V (As := [.int sd]) (rest := []) ⟨hx, hb, hml, hown, hts⟩ (t_X2_needSide l D cI cJ tp h hn ow fi ma ro ha oa na sa he ob nb sb ic lc stp ap cnt len fo ff fk fr oA cA rA tA gA nA sA oB cB rB tB gB nB sB hl9 sd hs) (cwV 1 hts gX2_merged_X2_needSide rfl rfl rfl (by decide +kernel) ⟨Nat.le_of_ble_eq_true rfl, Nat.le_of_ble_eq_true rfl⟩) (re_pv (ci := 2) (q0 := 0) hK hP hE rfl rfl) rfl hl.1 rfl (Nat.le_of_ble_eq_true rfl) dX2_merged_2 ⟨Nat.le_of_ble_eq_true rfl, Nat.le_of_ble_eq_true rfl⟩ hno hlocks
set_option maxHeartbeats 4000000 in
set_option maxRecDepth 100000 in
/-- apart -/
theorem c_X2_apart  : Met l yX2_apart wsX2_apart { frames := 0, cells := 0, slots := 0, locals := 0 } (re_P D [(cI, .int), (cJ, .long)] (xW h hn ow fi ma ro ha oa na sa he ob nb sb cI cJ ic lc stp ap cnt len fo ff fk fr oA cA rA tA gA nA sA oB cB rB tB gB nB sB) tp [.ref h]) (k2_QcV (.int ap)) 0 0 (fun _ => False) := by
  refine Met.ofW (cc := cX2_apart) (maxL := 1) (ret := (some .int)) (by decide) rfl ?_
  intro p e s m args below meth c s₁ B hml hv
  obtain ⟨rfl, ⟨hP, hK⟩, hE⟩ := hv
  have hx := B.exec
  have hb := B.bytes
  have hr := B.returns
  have hts := atoms_spec (ws := wsX2_apart) B.pre
  have hown : s.vm.findClass RX2 = some m.cls := findClass_of_methodNamed B.named
  have hlocks := B.notSynchronized
  have hl := lv_entry ([.ref h]) (n := 1) (Nat.le_of_ble_eq_true rfl)
  rw [lg_entry_eq]
  generalize (lg_sl ([.ref h]) ++ List.replicate (1 - (lg_sl ([.ref h])).length) Slot.unset).toArray = ls at hl ⊢
  have hl : lv_has ls 1 [(0, .ref h)] := hl
  have hP : va_P D vwCl [(h, .inr (2, [.ref hn, .ref ha, .ref he, .int (nI ic), .int (nI lc), .int (nI stp), .int ap])), (hn, .inr (1, [.int (nI cnt), .ref ow, .ref fi, .ref ma, .ref ro])), (ow, .inl (cI, 400, .inl fo)), (fi, .inl (cI, 400, .inl ff)), (ma, .inl (cJ, 400, .inr (.inl fk))), (ro, .inl (cJ, len, .inr (.inl fr))), (ha, .inr (0, [.ref oa, .ref na, .ref sa, .int (nI oA), .int (nI cA), .int (nI rA), .int (nI tA)])), (oa, .inl (cI, 16, .inl (fun j => nI (gA j)))), (na, .inl (cI, 4, .inl (fun j => nI (nA j)))), (sa, .inl (cI, 16, .inl sA)), (he, .inr (0, [.ref ob, .ref nb, .ref sb, .int (nI oB), .int (nI cB), .int (nI rB), .int (nI tB)])), (ob, .inl (cI, 16, .inl (fun j => nI (gB j)))), (nb, .inl (cI, 4, .inl (fun j => nI (nB j)))), (sb, .inl (cI, 16, .inl sB))] s.heap := hP
  have hin2 : ∀ w ∈ wsX20, w ∈ wsX2_apart := by decide +kernel
  have kf26 := hts (.fieldLink RX2 26 "SweepEqual" "apartStep" "I") (by decide +kernel)
  refine lv_aload_n hx hb dX2_apart_0 rfl (lv_at hl 0 rfl) ?_
  refine va_get (D := D) (ci := 2) (v := .int ap) (C := RX2) (T := TX2) (N := 7) hx hb hts hin2 hown hK hP 0 rfl rfl 6 (by decide) kf26 (fun _ h9 => h9) rfl dX2_apart_1 ?_
  exact rd_i hx hb hr hlocks dX2_apart_4 (rfl)
set_option maxHeartbeats 4000000 in
set_option maxRecDepth 100000 in
/-- the design of side 0 -/
theorem c_X2_designOf0  : Met l yX2_designOf wsX2_designOf { frames := 0, cells := 0, slots := 0, locals := 0 } (re_P D [(cI, .int), (cJ, .long)] (xW h hn ow fi ma ro ha oa na sa he ob nb sb cI cJ ic lc stp ap cnt len fo ff fk fr oA cA rA tA gA nA sA oB cB rB tB gB nB sB) tp [.ref h, .int 0]) (k2_QcV (.ref ha)) 0 0 (fun _ => False) := by
  refine Met.ofW (cc := cX2_designOf) (maxL := 2) (ret := (some (.object "SweepEqual$Design"))) (by decide) rfl ?_
  intro p e s m args below meth c s₁ B hml hv
  obtain ⟨rfl, ⟨hP, hK⟩, hE⟩ := hv
  have hx := B.exec
  have hb := B.bytes
  have hr := B.returns
  have hts := atoms_spec (ws := wsX2_designOf) B.pre
  have hown : s.vm.findClass RX2 = some m.cls := findClass_of_methodNamed B.named
  have hlocks := B.notSynchronized
  have hl := lv_entry ([.ref h, .int 0]) (n := 2) (Nat.le_of_ble_eq_true rfl)
  rw [lg_entry_eq]
  generalize (lg_sl ([.ref h, .int 0]) ++ List.replicate (2 - (lg_sl ([.ref h, .int 0])).length) Slot.unset).toArray = ls at hl ⊢
  have hl : lv_has ls 2 [(0, .ref h), (1, .int 0)] := hl
  have hP : va_P D vwCl [(h, .inr (2, [.ref hn, .ref ha, .ref he, .int (nI ic), .int (nI lc), .int (nI stp), .int ap])), (hn, .inr (1, [.int (nI cnt), .ref ow, .ref fi, .ref ma, .ref ro])), (ow, .inl (cI, 400, .inl fo)), (fi, .inl (cI, 400, .inl ff)), (ma, .inl (cJ, 400, .inr (.inl fk))), (ro, .inl (cJ, len, .inr (.inl fr))), (ha, .inr (0, [.ref oa, .ref na, .ref sa, .int (nI oA), .int (nI cA), .int (nI rA), .int (nI tA)])), (oa, .inl (cI, 16, .inl (fun j => nI (gA j)))), (na, .inl (cI, 4, .inl (fun j => nI (nA j)))), (sa, .inl (cI, 16, .inl sA)), (he, .inr (0, [.ref ob, .ref nb, .ref sb, .int (nI oB), .int (nI cB), .int (nI rB), .int (nI tB)])), (ob, .inl (cI, 16, .inl (fun j => nI (gB j)))), (nb, .inl (cI, 4, .inl (fun j => nI (nB j)))), (sb, .inl (cI, 16, .inl sB))] s.heap := hP
  have hin2 : ∀ w ∈ wsX20, w ∈ wsX2_designOf := by decide +kernel
  have kf19 := hts (.fieldLink RX2 19 "SweepEqual" "designA" "LSweepEqual$Design;") (by decide +kernel)
  have kf23 := hts (.fieldLink RX2 23 "SweepEqual" "designB" "LSweepEqual$Design;") (by decide +kernel)
  refine lv_iload_n hx hb dX2_designOf_0 rfl (lv_at hl 1 rfl) ?_
  refine lv_if_ne (tgt := 11) hx hb dX2_designOf_1 (by decide) (fun c1 => ?_) (fun c1 => ?_)
  · exact absurd rfl c1
  · refine lv_aload_n hx hb dX2_designOf_4 rfl (lv_at hl 0 rfl) ?_
    refine va_get (D := D) (ci := 2) (v := .ref ha) (C := RX2) (T := TX2) (N := 7) hx hb hts hin2 hown hK hP 0 rfl rfl 1 (by decide) kf19 (fun _ h9 => h9) rfl dX2_designOf_5 ?_
    refine lv_goto (tgt := 15) hx hb dX2_designOf_8 (by decide) ?_
    exact rd_a hx hb hr (Or.inl ⟨_, rfl⟩) hlocks dX2_designOf_15 rfl
set_option maxHeartbeats 4000000 in
set_option maxRecDepth 100000 in
/-- the design of side 1 -/
theorem c_X2_designOf1  : Met l yX2_designOf wsX2_designOf { frames := 0, cells := 0, slots := 0, locals := 0 } (re_P D [(cI, .int), (cJ, .long)] (xW h hn ow fi ma ro ha oa na sa he ob nb sb cI cJ ic lc stp ap cnt len fo ff fk fr oA cA rA tA gA nA sA oB cB rB tB gB nB sB) tp [.ref h, .int 1]) (k2_QcV (.ref he)) 0 0 (fun _ => False) := by
  refine Met.ofW (cc := cX2_designOf) (maxL := 2) (ret := (some (.object "SweepEqual$Design"))) (by decide) rfl ?_
  intro p e s m args below meth c s₁ B hml hv
  obtain ⟨rfl, ⟨hP, hK⟩, hE⟩ := hv
  have hx := B.exec
  have hb := B.bytes
  have hr := B.returns
  have hts := atoms_spec (ws := wsX2_designOf) B.pre
  have hown : s.vm.findClass RX2 = some m.cls := findClass_of_methodNamed B.named
  have hlocks := B.notSynchronized
  have hl := lv_entry ([.ref h, .int 1]) (n := 2) (Nat.le_of_ble_eq_true rfl)
  rw [lg_entry_eq]
  generalize (lg_sl ([.ref h, .int 1]) ++ List.replicate (2 - (lg_sl ([.ref h, .int 1])).length) Slot.unset).toArray = ls at hl ⊢
  have hl : lv_has ls 2 [(0, .ref h), (1, .int 1)] := hl
  have hP : va_P D vwCl [(h, .inr (2, [.ref hn, .ref ha, .ref he, .int (nI ic), .int (nI lc), .int (nI stp), .int ap])), (hn, .inr (1, [.int (nI cnt), .ref ow, .ref fi, .ref ma, .ref ro])), (ow, .inl (cI, 400, .inl fo)), (fi, .inl (cI, 400, .inl ff)), (ma, .inl (cJ, 400, .inr (.inl fk))), (ro, .inl (cJ, len, .inr (.inl fr))), (ha, .inr (0, [.ref oa, .ref na, .ref sa, .int (nI oA), .int (nI cA), .int (nI rA), .int (nI tA)])), (oa, .inl (cI, 16, .inl (fun j => nI (gA j)))), (na, .inl (cI, 4, .inl (fun j => nI (nA j)))), (sa, .inl (cI, 16, .inl sA)), (he, .inr (0, [.ref ob, .ref nb, .ref sb, .int (nI oB), .int (nI cB), .int (nI rB), .int (nI tB)])), (ob, .inl (cI, 16, .inl (fun j => nI (gB j)))), (nb, .inl (cI, 4, .inl (fun j => nI (nB j)))), (sb, .inl (cI, 16, .inl sB))] s.heap := hP
  have hin2 : ∀ w ∈ wsX20, w ∈ wsX2_designOf := by decide +kernel
  have kf19 := hts (.fieldLink RX2 19 "SweepEqual" "designA" "LSweepEqual$Design;") (by decide +kernel)
  have kf23 := hts (.fieldLink RX2 23 "SweepEqual" "designB" "LSweepEqual$Design;") (by decide +kernel)
  refine lv_iload_n hx hb dX2_designOf_0 rfl (lv_at hl 1 rfl) ?_
  refine lv_if_ne (tgt := 11) hx hb dX2_designOf_1 (by decide) (fun c1 => ?_) (fun c1 => ?_)
  · refine lv_aload_n hx hb dX2_designOf_11 rfl (lv_at hl 0 rfl) ?_
    refine va_get (D := D) (ci := 2) (v := .ref he) (C := RX2) (T := TX2) (N := 7) hx hb hts hin2 hown hK hP 0 rfl rfl 2 (by decide) kf23 (fun _ h9 => h9) rfl dX2_designOf_12 ?_
    exact rd_a hx hb hr (Or.inl ⟨_, rfl⟩) hlocks dX2_designOf_15 rfl
  · exact absurd c1 (by decide)
end XRd
